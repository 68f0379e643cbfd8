import java.util.ArrayList;
import java.util.List;

/** Counts the answers that are not the ones that are due, and tells of each. */
final class Check {
    static final Class<IllegalArgumentException> ARGUMENT = IllegalArgumentException.class;
    static final Class<IllegalStateException> STATE = IllegalStateException.class;
    static final Class<IndexOutOfBoundsException> INDEX = IndexOutOfBoundsException.class;

    interface Call {
        long answer();
    }

    /** Makes an object in the same state each time. */
    interface Maker {
        FloorPanels make();
    }

    interface Ask {
        long of(FloorPanels x);
    }

    /** A sentence of the document, and the section in which it stands. */
    static final class Quote {
        final String section;
        final String words;

        Quote(String section, String words) {
            this.section = section;
            this.words = words;
        }
    }

    private static final int REMEMBERED = 14;

    private final List<Quote> quotes = new ArrayList<>();
    private String place = "";
    private int wrong;

    /** The sentence that what follows is for. */
    void of(String section, String words) {
        quotes.add(new Quote(section, words));
        place = "[" + section + " | " + words + "]\n  ";
    }

    /** What follows is for no sentence. */
    void ofNone() {
        place = "";
    }

    List<Quote> quotes() {
        return quotes;
    }

    void is(String call, long got, long due) {
        if (got != due) {
            tell(call + " answered " + got + ", due is " + due);
        }
    }

    void is(String call, boolean got, boolean due) {
        is(call, got ? 1 : 0, due ? 1 : 0);
    }

    void same(String what, String got, String due) {
        if (!got.equals(due)) {
            tell(what + " is\n  " + got + "\n  due is\n  " + due);
        }
    }

    /** The class must be the very one: one that the machine throws is often below it. */
    void raises(String call, Class<? extends RuntimeException> due, Call it) {
        try {
            tell(call + " answered " + it.answer() + ", due is " + due.getName());
        } catch (RuntimeException e) {
            if (e.getClass() != due) {
                tell(call + " threw " + e + ", due is " + due.getName());
            }
        }
    }

    /** As raises; and behind the call all is as in an object on which it was not called. */
    void refuses(String call, Class<? extends RuntimeException> due, Maker maker, Ask ask) {
        FloorPanels x = maker.make();
        raises(call, due, () -> ask.of(x));
        same("all behind " + call, all(maker, ask), all(maker, y -> 0));
    }

    /** The call answers what is due, and behind it all is as in an object without it. */
    void onlyAnswers(String call, long due, Maker maker, Ask ask) {
        is(call, ask.of(maker.make()), due);
        same("all behind " + call, all(maker, ask), all(maker, y -> 0));
    }

    void tell(String what) {
        wrong++;
        System.out.println(place + what);
    }

    void end() {
        System.out.println(wrong == 0 ? "all answers are as due" : wrong + " are not as due");
        if (wrong != 0) {
            System.exit(1);
        }
    }

    // ---- all of an object

    /**
     * The state, the text, what undo brings back, and the save slots, behind a call. Each
     * is looked for in an object of its own: looking changes it, and an object is good for
     * 512 calls only.
     */
    static String all(Maker maker, Ask ask) {
        StringBuilder s = new StringBuilder(seen(behind(maker, ask)));
        s.append("\n  text ").append(behind(maker, ask).clearText());
        FloorPanels loaded = behind(maker, ask);
        s.append("\n  loaded ").append(answer(loaded, x -> x.load())).append(' ').append(seen(loaded));
        for (int undos = 1; undos <= REMEMBERED + 1; undos++) {
            FloorPanels undone = behind(maker, ask);
            s.append("\n  undo");
            for (int i = 0; i < undos; i++) {
                s.append(' ').append(answer(undone, x -> x.undo()));
            }
            s.append(' ').append(seen(undone));
        }
        for (int slot = 0; slot <= 1; slot++) {
            int number = slot;
            FloorPanels restored = behind(maker, ask);
            s.append("\n  restored ").append(answer(restored, x -> x.restore(number)));
            s.append(' ').append(seen(restored));
        }
        return s.toString();
    }

    private static FloorPanels behind(Maker maker, Ask ask) {
        FloorPanels x = maker.make();
        answer(x, ask);
        return x;
    }

    static String answer(FloorPanels x, Ask ask) {
        try {
            return String.valueOf(ask.of(x));
        } catch (RuntimeException e) {
            return e.getClass().getName();
        }
    }

    /** All of the state that can be seen without changing it. */
    static String seen(FloorPanels x) {
        StringBuilder s = new StringBuilder("about");
        for (int what = 0; what <= 8; what++) {
            s.append(' ').append(x.about(what));
        }
        for (int l = 0; l < x.about(0); l++) {
            s.append("; level ").append(l);
            for (int what = 0; what <= 4; what++) {
                s.append(' ').append(x.level(l, what));
            }
            for (int c = 0; c < 3; c++) {
                s.append(" car");
                for (int what = 0; what <= 2; what++) {
                    s.append(' ').append(x.button(c, l, what));
                }
            }
        }
        s.append("; skipped");
        for (int storey = 1; storey <= 30; storey++) {
            if (x.isSkipped(storey)) {
                s.append(' ').append(storey);
            }
        }
        return s.append("; error ").append(x.errorPosition()).toString();
    }

    // ---- objects

    static FloorPanels house(String text) {
        FloorPanels x = new FloorPanels();
        write(x, text);
        x.load();
        return x;
    }

    /** A house with the storeys from one to another skipped, one by one. */
    static FloorPanels skipping(String text, int from, int to) {
        FloorPanels x = house(text);
        for (int storey = from; storey <= to; storey++) {
            x.skip(storey, true);
        }
        return x;
    }

    static FloorPanels right(String text) {
        FloorPanels x = house(text);
        putAllRight(x);
        return x;
    }

    /**
     * A house with much that a call could change by mistake: signs and buttons right and
     * wrong, cars that do not serve a level, states that are remembered, both save slots
     * used, and a text that is another house.
     */
    static FloorPanels busy(String text) {
        FloorPanels x = house(text);
        int top = x.about(0) - 1;
        x.putCar(0);
        x.putSign(0);
        x.save(0);
        x.serve(1, 0, false);
        x.skip(2, true);
        x.putButton(1, top);
        x.save(1);
        x.exchange(0, 0, top);
        x.putSign(top);
        x.serve(2, top, false);
        x.skip(9, true);
        write(x, "hwGx/1,30");
        return x;
    }

    /** A house in which each level has its own sign, buttons and cars. */
    static FloorPanels manifold(String text) {
        FloorPanels x = house(text);
        int levels = x.about(0);
        x.putCar(0);
        x.exchange(0, 0, levels - 1);
        for (int l = 0; l < levels; l++) {
            if (l % 3 != 1) {
                x.putSign(l);
            }
            if (l % 2 == 1) {
                x.putButton(1, l);
            }
            if (l % 4 != 2) {
                x.putButton(2, l);
            }
            for (int c = 0; c < 3; c++) {
                if ((l * (c + 2) + c) % 5 < 2) {
                    x.serve(c, l, false);
                }
            }
        }
        x.serve(2, levels - 1, false);
        return x;
    }

    static void write(FloorPanels x, String text) {
        x.clearText();
        for (int i = 0; i < text.length(); i++) {
            x.append(text.charAt(i));
        }
    }

    static void putAllRight(FloorPanels x) {
        for (int c = 0; c < 3; c++) {
            x.putCar(c);
        }
        int levels = x.about(0);
        for (int l = 0; l < levels; l++) {
            x.putSign(l);
        }
    }

    // ---- rows

    static String names(FloorPanels x) {
        return row(x, l -> x.level(l, 1));
    }

    static String signs(FloorPanels x) {
        return row(x, l -> x.level(l, 2));
    }

    static String buttons(FloorPanels x, int c) {
        return row(x, l -> x.button(c, l, 0));
    }

    static String served(FloorPanels x, int c) {
        return row(x, l -> x.button(c, l, 2));
    }

    private interface Cell {
        int at(int l);
    }

    private static String row(FloorPanels x, Cell cell) {
        StringBuilder s = new StringBuilder();
        int levels = x.about(0);
        for (int l = 0; l < levels; l++) {
            s.append(l == 0 ? "" : " ").append(cell.at(l));
        }
        return s.toString();
    }
}
