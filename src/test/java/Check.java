/** Counts the answers that are not the ones that are due, and tells of each. */
final class Check {
    interface Call {
        long answer();
    }

    private int wrong;

    void is(String call, long got, long due) {
        if (got != due) {
            tell(call + " answered " + got + ", due is " + due);
        }
    }

    void is(String call, boolean got, boolean due) {
        is(call, got ? 1 : 0, due ? 1 : 0);
    }

    void same(String what, String got, String due) {
        if (!got.equals(due)) {
            tell(what + " is\n  " + got + "\n  due is\n  " + due);
        }
    }

    /** The class must be the very one: one that the machine throws is often below it. */
    void raises(String call, Class<? extends RuntimeException> due, Call it) {
        try {
            tell(call + " answered " + it.answer() + ", due is " + due.getName());
        } catch (RuntimeException e) {
            if (e.getClass() != due) {
                tell(call + " threw " + e + ", due is " + due.getName());
            }
        }
    }

    /** As raises; and nothing of x may change, nor may a state be remembered. */
    void refuses(String call, Class<? extends RuntimeException> due, FloorPanels x, Call it) {
        String before = seen(x);
        raises(call, due, it);
        same("the state behind " + call, seen(x), before);
    }

    void tell(String what) {
        wrong++;
        System.out.println(what);
    }

    void end() {
        System.out.println(wrong == 0 ? "all answers are as due" : wrong + " are not as due");
        if (wrong != 0) {
            System.exit(1);
        }
    }

    static FloorPanels house(String text) {
        FloorPanels x = new FloorPanels();
        write(x, text);
        x.load();
        return x;
    }

    static void write(FloorPanels x, String text) {
        x.clearText();
        for (int i = 0; i < text.length(); i++) {
            x.append(text.charAt(i));
        }
    }

    static void putAllRight(FloorPanels x) {
        for (int c = 0; c < 3; c++) {
            x.putCar(c);
        }
        for (int l = 0; l < x.about(0); l++) {
            x.putSign(l);
        }
    }

    /** All of the state that can be seen without changing it. */
    static String seen(FloorPanels x) {
        StringBuilder s = new StringBuilder("about");
        for (int what = 0; what <= 8; what++) {
            s.append(' ').append(x.about(what));
        }
        for (int l = 0; l < x.about(0); l++) {
            s.append("; level ").append(l);
            for (int what = 0; what <= 4; what++) {
                s.append(' ').append(x.level(l, what));
            }
            for (int c = 0; c < 3; c++) {
                s.append(" car");
                for (int what = 0; what <= 2; what++) {
                    s.append(' ').append(x.button(c, l, what));
                }
            }
        }
        s.append("; skipped");
        for (int storey = 1; storey <= 30; storey++) {
            if (x.isSkipped(storey)) {
                s.append(' ').append(storey);
            }
        }
        return s.append("; error ").append(x.errorPosition()).toString();
    }

    static String names(FloorPanels x) {
        StringBuilder s = new StringBuilder();
        for (int l = 0; l < x.about(0); l++) {
            s.append(l == 0 ? "" : " ").append(x.level(l, 1));
        }
        return s.toString();
    }

    static String signs(FloorPanels x) {
        StringBuilder s = new StringBuilder();
        for (int l = 0; l < x.about(0); l++) {
            s.append(l == 0 ? "" : " ").append(x.level(l, 2));
        }
        return s.toString();
    }

    static String buttons(FloorPanels x, int c) {
        StringBuilder s = new StringBuilder();
        for (int l = 0; l < x.about(0); l++) {
            s.append(l == 0 ? "" : " ").append(x.button(c, l, 0));
        }
        return s.toString();
    }
}
