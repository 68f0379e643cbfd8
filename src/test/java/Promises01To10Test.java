/** A new object, the text, and what there is. */
public final class Promises01To10Test {
    private static final Class<IllegalArgumentException> ARGUMENT = IllegalArgumentException.class;
    private static final Class<IllegalStateException> STATE = IllegalStateException.class;
    private static final Class<IndexOutOfBoundsException> INDEX = IndexOutOfBoundsException.class;

    private static final Check check = new Check();

    public static void main(String[] args) {
        aNewObject();
        append();
        clearText();
        errorPositionOfLetters();
        errorPositionOfStoreys();
        errorPositionOfEveryCharacter();
        load();
        loadForgets();
        loadRefuses();
        names();
        namesBetweenSkippedStoreys();
        about();
        level();
        button();
        isSkipped();
        named();
        check.end();
    }

    private static void aNewObject() {
        FloorPanels x = new FloorPanels();
        check.same("a new object", Check.seen(x),
                "about 1 0 1 3 0 0 0 0 0; level 0 0 0 -1 0 1"
                + " car -1 0 1 car -1 0 1 car -1 0 1; skipped; error 0");
        check.raises("undo() of a new object", STATE, () -> x.undo());
        check.raises("restore(0) of a new object", STATE, () -> x.restore(0));
        check.raises("restore(1) of a new object", STATE, () -> x.restore(1));
        check.is("clearText() of a new object", x.clearText(), 0);
        FloorPanels other = new FloorPanels();
        x.add(0, 0);
        x.append('G');
        check.is("another object's levels", other.about(0), 1);
        check.is("another object's text", other.clearText(), 0);
    }

    private static void append() {
        FloorPanels x = new FloorPanels();
        check.raises("append(-1)", ARGUMENT, () -> x.append(-1));
        check.raises("append(256)", ARGUMENT, () -> x.append(256));
        check.raises("append(least)", ARGUMENT, () -> x.append(Integer.MIN_VALUE));
        check.raises("append(greatest)", ARGUMENT, () -> x.append(Integer.MAX_VALUE));
        check.is("append(0)", x.append(0), 1);
        check.is("append(255)", x.append(255), 2);
        for (int length = 3; length <= 60; length++) {
            check.is("append to " + (length - 1), x.append('G'), length);
        }
        check.raises("append to 60", STATE, () -> x.append('G'));
        check.raises("append(256) to 60", ARGUMENT, () -> x.append(256));
        check.raises("append(-1) to 60", ARGUMENT, () -> x.append(-1));
        check.is("clearText() behind 60", x.clearText(), 60);
        check.is("append to none", x.append('G'), 1);
        check.is("a text that has come again", x.errorPosition(), FloorPanels.NONE);
    }

    private static void clearText() {
        FloorPanels x = new FloorPanels();
        check.is("clearText() of none", x.clearText(), 0);
        Check.write(x, "wGw");
        x.load();
        check.is("clearText() of three", x.clearText(), 3);
        check.is("clearText() again", x.clearText(), 0);
        check.is("the error position behind it", x.errorPosition(), 0);
        check.is("the levels behind it", x.about(0), 3);
    }

    private static void errorAt(String text, int due) {
        FloorPanels x = new FloorPanels();
        Check.write(x, text);
        check.is("errorPosition() of " + text, x.errorPosition(), due);
    }

    private static void errorPositionOfLetters() {
        errorAt("", 0);
        errorAt("G", -1);
        errorAt("w", 1);
        errorAt("whjx", 4);
        errorAt("whjxGwhjx", -1);
        errorAt("GG", 1);
        errorAt("wGwG", 3);
        errorAt("g", 0);
        errorAt("W", 0);
        errorAt("wG w", 2);
        errorAt(" G", 0);
        errorAt("G ", 1);
        errorAt("Gwy", 2);
        errorAt("/", 0);
        errorAt("w/1", 1);
        errorAt("G1", 1);
        errorAt("G,", 1);
        errorAt("Gwwwwwwwwwwwwwww", -1);
        errorAt("Gwwwwwwwwwwwwwwww", 16);
        errorAt("Gwwwwwwwwwwwwwww/", 17);
        errorAt("Gwwwwwwwwwwwwwww/7", -1);
        errorAt("wwwwwwwwwwwwwww", 15);
        errorAt("wwwwwwwwwwwwwwwG", -1);
        errorAt("wwwwwwwwwwwwwwww", 15);
        errorAt("wwwwwwwwwwwwwwwh", 15);
        errorAt("wwwwwwwwwwwwwww/", 15);
        errorAt("wwwwwwwwwwwwwwwGG", 16);
        errorAt("wwwwwwwwwwwwwwwGw", 16);
        errorAt("wwwwwwwwwwwwwwGx", -1);
        errorAt("wwwwwwwwwwwwwwGG", 15);
    }

    private static void errorPositionOfStoreys() {
        errorAt("G/", 2);
        errorAt("G/1", -1);
        errorAt("G/9", -1);
        errorAt("G/30", -1);
        errorAt("G/0", 2);
        errorAt("G/01", 2);
        errorAt("G/31", 3);
        errorAt("G/39", 3);
        errorAt("G/40", 3);
        errorAt("G/10", -1);
        errorAt("G/29", -1);
        errorAt("G/100", 4);
        errorAt("G/300", 4);
        errorAt("G/,", 2);
        errorAt("G//", 2);
        errorAt("G/1/", 3);
        errorAt("G/G", 2);
        errorAt("G/1w", 3);
        errorAt("G/1,", 4);
        errorAt("G/1,,", 4);
        errorAt("G/1,0", 4);
        errorAt("G/1,2", -1);
        errorAt("G/1,1", 5);
        errorAt("G/1,1,", 5);
        errorAt("G/1,12", -1);
        errorAt("G/5,4", 5);
        errorAt("G/5,4,", 5);
        errorAt("G/5,4,6", 5);
        errorAt("G/5,41", 5);
        errorAt("G/5,2", 5);
        errorAt("G/5,20", -1);
        errorAt("G/5,20,20", 9);
        errorAt("G/30,", 5);
        errorAt("G/30,3", 6);
        errorAt("G/30,30", 7);
        errorAt("G/30,30,", 7);
        errorAt("G/3 ", 3);
        errorAt("G/3 ,4", 3);
        errorAt("G/3, 4", 4);
        errorAt("G/-1", 2);
        errorAt("G/+1", 2);
        errorAt("wGw/1,2,3,4,5,6,7,8,9,10,11,12,13,14,15,16,17,18,19,20,21,22", -1);
        errorAt("wGw/1,2,3,4,5,6,7,8,9,10,11,12,13,14,15,16,17,18,19,20,21,2", 59);
        errorAt("wG/1,2,3,4,5,6,7,8,9,10,11,12,13,14,15,16,17,18,19,20,21,22", -1);
    }

    /** Each character behind some texts: only these few are allowed there. */
    private static void errorPositionOfEveryCharacter() {
        String[] texts = {"", "w", "G", "G/", "G/1", "G/2", "G/3", "G/4", "G/10", "G/2,", "G/2,1", "G/2,3"};
        String[] allowed = {"Gwhjx", "Gwhjx", "whjx/", "123456789", "0123456789,", "0123456789,",
            "0,", ",", ",", "123456789", "0123456789", "0,"};
        for (int i = 0; i < texts.length; i++) {
            for (int c = 0; c < 256; c++) {
                FloorPanels x = new FloorPanels();
                Check.write(x, texts[i]);
                x.append(c);
                boolean isError = x.errorPosition() == texts[i].length();
                // Behind a text that ends too soon the position is its length, one more.
                check.is("character " + c + " behind '" + texts[i] + "' is an error",
                        isError, allowed[i].indexOf(c) < 0);
            }
        }
    }

    private static void load() {
        FloorPanels x = new FloorPanels();
        Check.write(x, "xwhGjw/2,30");
        check.is("load()", x.load(), 6);
        check.same("a loaded house", Check.seen(x), "about 6 3 5 15 1 0 2 1 -1"
                + "; level 0 3 -1 -1 1 0 car -1 1 1 car -1 1 1 car -1 1 1"
                + "; level 1 0 -4 -1 0 1 car -1 0 1 car -1 0 1 car -1 0 1"
                + "; level 2 1 1 -1 0 1 car -1 0 1 car -1 0 1 car -1 0 1"
                + "; level 3 0 0 -1 0 1 car -1 0 1 car -1 0 1 car -1 0 1"
                + "; level 4 2 2 -1 0 1 car -1 0 1 car -1 0 1 car -1 0 1"
                + "; level 5 0 4 -1 0 1 car -1 0 1 car -1 0 1 car -1 0 1"
                + "; skipped 2 30; error -1");
        check.is("the text is kept", x.clearText(), 11);
        Check.write(x, "G");
        check.is("load() of the ground alone", x.load(), 1);
        check.is("the skipped storeys then", x.about(6), 0);
        Check.write(x, "wwwwwwwwwwwwwwwG");
        check.is("load() of 16 levels", x.load(), 16);
        check.is("the ground of 16 levels", x.about(1), 15);
        check.is("the least storey of 16 levels", x.about(8), -15);
        Check.write(x, "wG/1,2,3,4,5,6,7,8,9,10,11,12,13,14,15,16,17,18,19,20,21,22");
        check.is("load() of 59 characters", x.load(), 2);
        check.is("22 skipped storeys", x.about(6), 22);
        check.is("the last one", x.isSkipped(22), true);
        check.is("the next one", x.isSkipped(23), false);
    }

    private static void loadForgets() {
        FloorPanels x = new FloorPanels();
        x.add(1, 0);
        x.skip(7, true);
        Check.putAllRight(x);
        x.serve(1, 0, false);
        x.serve(2, 1, false);
        x.save(0);
        x.save(1);
        Check.write(x, "Gw");
        check.is("load() over another house", x.load(), 2);
        check.same("what is then", Check.seen(x), "about 2 0 2 6 0 0 0 1 0"
                + "; level 0 0 0 -1 0 1 car -1 0 1 car -1 0 1 car -1 0 1"
                + "; level 1 0 4 -1 0 1 car -1 0 1 car -1 0 1 car -1 0 1; skipped; error -1");
        check.raises("undo() behind load()", STATE, () -> x.undo());
        check.raises("restore(0) behind load()", STATE, () -> x.restore(0));
        check.raises("restore(1) behind load()", STATE, () -> x.restore(1));
        x.putSign(0);
        check.is("undo() of an action behind load()", x.undo(), 0);
        check.raises("undo() once more", STATE, () -> x.undo());
    }

    private static void loadRefuses() {
        FloorPanels x = Check.house("wG/3");
        x.putSign(1);
        x.save(1);
        x.putSign(0);
        Check.write(x, "GG");
        check.raises("load() of GG", STATE, () -> x.load());
        Check.write(x, "");
        check.raises("load() of nothing", STATE, () -> x.load());
        Check.write(x, "w");
        check.raises("load() of w", STATE, () -> x.load());
        Check.write(x, "G/2,2");
        check.raises("load() of G/2,2", STATE, () -> x.load());
        check.is("undo() behind a load() that threw", x.undo(), 1);
        check.is("restore(1) behind a load() that threw", x.restore(1), 2);
    }

    private static void names() {
        check.same("names upwards", Check.names(Check.house("Gwww")), "0 4 8 12");
        check.same("names downwards", Check.names(Check.house("wwwG")), "-12 -8 -4 0");
        check.same("names of each kind upwards", Check.names(Check.house("Ghjxhwxhjw")),
                "0 1 2 -1 1 4 -1 5 6 8");
        check.same("names of each kind downwards", Check.names(Check.house("wjhxwhxjhG")),
                "-8 -2 -3 -1 -4 1 -1 2 1 0");
        check.same("names of levels walled up", Check.names(Check.house("xxGxx")), "-1 -1 0 -1 -1");
        check.same("names of joined levels", Check.names(Check.house("jjGjj")), "2 2 0 2 2");
        check.same("names of half floors above joined ones", Check.names(Check.house("Gwjhwhj")),
                "0 4 6 5 8 9 10");
        check.same("names of half floors under the ground", Check.names(Check.house("hwhwhG")),
                "-7 -8 -3 -4 1 0");
    }

    private static void namesBetweenSkippedStoreys() {
        check.same("names without storey 1", Check.names(Check.house("wGhww/1")), "-4 0 1 8 12");
        check.same("names without 2 and 3", Check.names(Check.house("wwGwhwjw/2,3")),
                "-8 -4 0 4 5 16 18 20");
        check.same("names without 30", Check.names(skippedTo(30, "Gww")), "0 124 128");
        check.same("names without 1 to 29", Check.names(skippedTo(29, "wGww")), "-4 0 120 124");
        check.same("names of 15 levels above 1 to 15 skipped",
                Check.names(skippedTo(17, "Gwwwwwwwwwwwwwww")),
                "0 72 76 80 84 88 92 96 100 104 108 112 116 120 124 128");
    }

    private static FloorPanels skippedTo(int last, String text) {
        FloorPanels x = Check.house(text);
        for (int storey = 1; storey <= last; storey++) {
            x.skip(storey, true);
        }
        return x;
    }

    private static void about() {
        FloorPanels x = Check.house("whxwGjjwhx/1,4,30");
        int[] due = {10, 4, 8, 24, 2, 2, 3, 2, -2};
        for (int what = 0; what <= 8; what++) {
            check.is("about(" + what + ")", x.about(what), due[what]);
        }
        Check.putAllRight(x);
        check.is("the wrong signs when all are right", x.about(2), 0);
        check.is("the wrong buttons when all are right", x.about(3), 0);
        x.skip(1, false);
        check.is("the wrong signs of two levels", x.about(2), 2);
        check.is("the wrong buttons of two levels", x.about(3), 6);
        x.serve(1, 7, false);
        check.is("wrong buttons, served or not", x.about(3), 6);
        x.putCar(1);
        check.is("the wrong buttons of two cars", x.about(3), 4);
        check.is("the greatest storey below the ground", Check.house("wwG").about(7), 0);
        check.is("the least storey above the ground", Check.house("Gww").about(8), 0);
        check.is("the least storey of half floors", Check.house("hwG").about(8), -1);
        check.is("the greatest storey of half floors", Check.house("Gwhx").about(7), 1);
        check.is("names in common of four", Check.house("hGhjj").about(5), 4);
        check.raises("about(-1)", ARGUMENT, () -> x.about(-1));
        check.raises("about(9)", ARGUMENT, () -> x.about(9));
        check.raises("about(least)", ARGUMENT, () -> x.about(Integer.MIN_VALUE));
    }

    private static void level() {
        FloorPanels x = Check.house("xwGhhhw");
        check.is("the kind of one walled up", x.level(0, 0), 3);
        check.is("the kind of a half one", x.level(3, 0), 1);
        check.is("the kind of the ground", x.level(2, 0), 0);
        check.is("the name of one walled up", x.level(0, 1), -1);
        check.is("the name below the ground", x.level(1, 1), -4);
        check.is("the sign of a level", x.level(6, 2), -1);
        check.is("the sign of one walled up is right", x.level(0, 3), 1);
        check.is("the sign of a level is not right", x.level(6, 3), 0);
        x.putSign(6);
        check.is("the sign that is put right", x.level(6, 2), 4);
        check.is("it is right", x.level(6, 3), 1);
        x.kind(6, 3);
        check.is("the sign of one walled up later", x.level(6, 2), 4);
        check.is("it is wrong", x.level(6, 3), 0);
        check.is("three of one name", x.level(4, 4), 3);
        check.is("one of a name", x.level(1, 4), 1);
        check.is("how many have no name", x.level(0, 4), 0);
        check.raises("level(-1, 0)", INDEX, () -> x.level(-1, 0));
        check.raises("level(7, 0)", INDEX, () -> x.level(7, 0));
        check.raises("level(7, 9)", INDEX, () -> x.level(7, 9));
        check.raises("level(greatest, -1)", INDEX, () -> x.level(Integer.MAX_VALUE, -1));
        check.raises("level(6, 5)", ARGUMENT, () -> x.level(6, 5));
        check.raises("level(0, -1)", ARGUMENT, () -> x.level(0, -1));
    }

    private static void button() {
        FloorPanels x = Check.house("wGx");
        check.is("a new button", x.button(0, 0, 0), -1);
        check.is("a new button is right", x.button(0, 0, 1), 0);
        check.is("a new button of one walled up is right", x.button(2, 2, 1), 1);
        check.is("a new level is served", x.button(2, 2, 2), 1);
        x.putButton(1, 0);
        check.is("the button put right", x.button(1, 0, 0), -4);
        check.is("it is right", x.button(1, 0, 1), 1);
        check.is("the same of another car", x.button(0, 0, 0), -1);
        x.serve(1, 0, false);
        check.is("a level not served", x.button(1, 0, 2), 0);
        check.is("its button is right still", x.button(1, 0, 1), 1);
        check.is("the same level and another car", x.button(2, 0, 2), 1);
        check.raises("button(-1, 0, 0)", INDEX, () -> x.button(-1, 0, 0));
        check.raises("button(3, 0, 0)", INDEX, () -> x.button(3, 0, 0));
        check.raises("button(0, -1, 0)", INDEX, () -> x.button(0, -1, 0));
        check.raises("button(0, 3, 0)", INDEX, () -> x.button(0, 3, 0));
        check.raises("button(3, 3, 3)", INDEX, () -> x.button(3, 3, 3));
        check.raises("button(0, 3, 3)", INDEX, () -> x.button(0, 3, 3));
        check.raises("button(0, 0, 3)", ARGUMENT, () -> x.button(0, 0, 3));
        check.raises("button(0, 0, -1)", ARGUMENT, () -> x.button(0, 0, -1));
    }

    private static void isSkipped() {
        FloorPanels x = Check.house("G/1,30");
        for (int storey = 1; storey <= 30; storey++) {
            check.is("isSkipped(" + storey + ")", x.isSkipped(storey), storey == 1 || storey == 30);
        }
        check.raises("isSkipped(0)", ARGUMENT, () -> x.isSkipped(0) ? 1 : 0);
        check.raises("isSkipped(31)", ARGUMENT, () -> x.isSkipped(31) ? 1 : 0);
        check.raises("isSkipped(33)", ARGUMENT, () -> x.isSkipped(33) ? 1 : 0);
        check.raises("isSkipped(-1)", ARGUMENT, () -> x.isSkipped(-1) ? 1 : 0);
    }

    private static void named() {
        FloorPanels x = Check.house("xwhGhhx");
        check.is("the first one of a name", x.named(1, 0), 2);
        check.is("the second one", x.named(1, 1), 4);
        check.is("the third one", x.named(1, 2), 5);
        check.is("a fourth one", x.named(1, 3), -1);
        check.is("named(-4, 0)", x.named(-4, 0), 1);
        check.is("named(0, 0)", x.named(0, 0), 3);
        check.is("no name, the first one", x.named(-1, 0), -1);
        check.is("no name, the second one", x.named(-1, 1), -1);
        check.is("a name that no level has", x.named(4, 0), -1);
        check.is("the greatest number", x.named(Integer.MAX_VALUE, 0), -1);
        check.is("the greatest k", x.named(1, Integer.MAX_VALUE), -1);
        x.putSign(1);
        x.kind(1, 3);
        check.is("what only a sign says", x.named(-4, 0), -1);
        FloorPanels low = Check.house("hG");
        check.is("a name of level 0", low.named(1, 0), 0);
        check.is("a name of the last level", low.named(0, 0), 1);
        check.raises("named(1, -1)", ARGUMENT, () -> x.named(1, -1));
        check.raises("named(99, least)", ARGUMENT, () -> x.named(99, Integer.MIN_VALUE));
    }
}
