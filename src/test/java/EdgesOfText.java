/** The text at its edges: the section "Terms", and the promises 1 to 5. */
final class EdgesOfText {
    private static final String TERMS = "Terms";
    private static final String APPEND = "Promise 2: append";
    private static final String CLEAR = "Promise 3: clearText";
    private static final String ERROR = "Promise 4: errorPosition";
    private static final String LOAD = "Promise 5: load";

    /** A house of 60 characters: 4, and 56 for the storeys. */
    private static final String FULL = "wGw/1,2,3,4,5,6,7,8,9,10,11,12,13,14,15,16,17,18,19,20,21,22";

    private final Check check;

    EdgesOfText(Check check) {
        this.check = check;
    }

    void run() {
        sixtyCharacters();
        aLetterForEachLevel();
        oneToSixteenLetters();
        theStoreys();
        noBlanks();
        theFirstCharacterThatIsNotAllowed();
        digits();
        commas();
        tooSoon();
        theGroundAlone();
        characterCodes();
        theNewLength();
        noOtherCharacters();
        noMoreThanSixty();
        emptiesTheText();
        thePreviousLength();
        checksTheText();
        oneHouse();
        sayNothingAndServeAll();
        justTheStoreysThatItTells();
        nothingIsRemembered();
        keepsTheText();
        theLevels();
        notAHouse();
    }

    private void errorAt(String text, int due) {
        FloorPanels x = new FloorPanels();
        Check.write(x, text);
        check.is("errorPosition() of '" + text + "'", x.errorPosition(), due);
    }

    private static FloorPanels written(String text) {
        FloorPanels x = new FloorPanels();
        Check.write(x, text);
        return x;
    }

    // ---- Terms

    private void sixtyCharacters() {
        check.of(TERMS, "The object has a text buffer of at most 60 characters.");
        FloorPanels x = new FloorPanels();
        for (int i = 0; i < 60; i++) {
            check.is("append() to " + i, x.append(FULL.charAt(i)), i + 1);
        }
        check.raises("append() to 60", Check.STATE, () -> x.append('w'));
        check.is("errorPosition() of 60", x.errorPosition(), -1);
        check.is("load() of 60", x.load(), 3);
        check.is("the skipped storeys then", x.about(6), 22);
        check.is("clearText() of 60", x.clearText(), 60);
        check.is("errorPosition() of 59", errorOf(FULL.substring(0, 59)), 59);
    }

    private static int errorOf(String text) {
        return written(text).errorPosition();
    }

    private void aLetterForEachLevel() {
        check.of(TERMS, "A house as a text has a letter for each level, the lowest first: G for the"
                + " ground, just once, and w, h, j, x for a whole, half, joined, walled up one;");
        errorAt("G", -1);
        errorAt("whjxG", -1);
        errorAt("Gxjhw", -1);
        errorAt("w", 1);
        errorAt("whjx", 4);
        errorAt("GG", 1);
        errorAt("GwG", 2);
        errorAt("wwwwwwwwwwwwwwGG", 15);
        errorAt("g", 0);
        errorAt("GW", 1);
        errorAt("GH", 1);
        errorAt("GJ", 1);
        errorAt("GX", 1);
        FloorPanels x = Check.house("whjxGxjhw");
        int[] kinds = {0, 1, 2, 3, 0, 3, 2, 1, 0};
        for (int l = 0; l < 9; l++) {
            check.is("the kind of level " + l, x.level(l, 0), kinds[l]);
        }
        check.is("the ground", x.about(1), 4);
    }

    private void oneToSixteenLetters() {
        check.of(TERMS, "there are 1 to 16 of them (so behind 15 letters without a G only a G is"
                + " allowed).");
        errorAt("", 0);
        errorAt("/", 0);
        errorAt("/1", 0);
        errorAt("G", -1);
        errorAt("Gwwwwwwwwwwwwww", -1);
        errorAt("Gwwwwwwwwwwwwwww", -1);
        errorAt("wwwwwwwGwwwwwwww", -1);
        for (char c : "Gwhjx".toCharArray()) {
            errorAt("Gwwwwwwwwwwwwwww" + c, 16);
            errorAt("wwwwwwwwwwwwwwwG" + c, 16);
        }
        errorAt("Gwwwwwwwwwwwwwww/1", -1);
        errorAt("wwwwwwwwwwwwww", 14);
        errorAt("wwwwwwwwwwwwwwG", -1);
        errorAt("wwwwwwwwwwwwwwGx", -1);
        errorAt("wwwwwwwwwwwwwww", 15);
        for (int c = 0; c < 256; c++) {
            errorAt("hjxwhjxwhjxwhjx" + (char) c, c == 'G' ? -1 : 15);
            errorAt("hjxwhjxwhjxwhj" + (char) c, c == 'G' ? -1 : "whjx".indexOf(c) >= 0 ? 15 : 14);
        }
    }

    private void theStoreys() {
        check.of(TERMS, "Then there may be a slash and one or more storeys that are skipped, 1 to 30,"
                + " without zeros ahead, with a comma between two of them, each greater than the one"
                + " before it.");
        errorAt("G/", 2);
        errorAt("G/1", -1);
        errorAt("G/30", -1);
        errorAt("G/0", 2);
        errorAt("G/31", 3);
        errorAt("G/00", 2);
        errorAt("G/01", 2);
        errorAt("G/030", 2);
        errorAt("G/1,02", 4);
        errorAt("G/1,2", -1);
        errorAt("G/29,30", -1);
        errorAt("G/1,30", -1);
        errorAt("G/9,10", -1);
        errorAt("G/2,2", 5);
        errorAt("G/2,1", 5);
        errorAt("G/30,29", 7);
        errorAt("G/1//2", 3);
        errorAt("G//1", 2);
        errorAt("G/1;2", 3);
        errorAt("G/,1", 2);
        errorAt("G/1,,2", 4);
        errorAt("G1", 1);
        errorAt("w/1", 1);
        for (int storey = 1; storey <= 99; storey++) {
            errorAt("wG/" + storey, storey <= 30 ? -1 : 4);
            errorAt("G/15," + storey, storey <= 15 ? ("G/15," + storey).length() : storey <= 30 ? -1 : 6);
        }
    }

    private void noBlanks() {
        check.of(TERMS, "There are no blanks.");
        errorAt(" ", 0);
        errorAt(" G", 0);
        errorAt("G ", 1);
        errorAt("w G", 1);
        errorAt("G /1", 1);
        errorAt("G/ 1", 2);
        errorAt("G/1 ", 3);
        errorAt("G/1 ,2", 3);
        errorAt("G/1, 2", 4);
        errorAt("G/1,2 ", 5);
    }

    private void theFirstCharacterThatIsNotAllowed() {
        check.of(TERMS, "The error position is the index of the first character that these rules do"
                + " not allow at its place:");
        String[] texts = {"", "w", "G", "wG", "G/", "G/1", "G/2", "G/3", "G/4", "G/10", "G/30",
            "G/2,", "G/2,1", "G/2,2", "G/2,3", "G/2,30"};
        String[] allowed = {"Gwhjx", "Gwhjx", "whjx/", "whjx/", "123456789", "0123456789,",
            "0123456789,", "0,", ",", ",", ",", "123456789", "0123456789", "0123456789", "0,", ","};
        for (int i = 0; i < texts.length; i++) {
            for (int c = 0; c < 256; c++) {
                int at = texts[i].length();
                boolean isError = errorOf(texts[i] + (char) c) == at;
                check.is("character " + c + " behind '" + texts[i] + "' is an error", isError,
                        allowed[i].indexOf(c) < 0);
            }
        }
        errorAt("yG", 0);
        errorAt("Gyy", 1);
        errorAt("Gy/0", 1);
        errorAt("G/0y", 2);
    }

    private void digits() {
        check.of(TERMS, "a digit is not allowed if no number from 1 to 30 begins with it and those"
                + " before it;");
        errorAt("G/0", 2);
        for (int digit = 1; digit <= 9; digit++) {
            errorAt("G/" + digit, -1);
            for (int second = 0; second <= 9; second++) {
                boolean good = digit <= 2 || digit == 3 && second == 0;
                errorAt("G/" + digit + second, good ? -1 : 3);
                if (good) {
                    errorAt("G/" + digit + second + "0", 4);
                    errorAt("G/" + digit + second + "9", 4);
                }
            }
        }
        errorAt("G/12,0", 5);
        errorAt("G/12,31", 6);
        errorAt("G/12,40", 6);
        errorAt("G/12,300", 7);
        errorAt("G/12,99", 6);
    }

    private void commas() {
        check.of(TERMS, "a comma is not allowed behind a number that is not greater than the one"
                + " before it.");
        errorAt("G/1,", 4);
        errorAt("G/1,2,", 6);
        errorAt("G/1,1,", 5);
        errorAt("G/2,1,", 5);
        errorAt("G/2,1,3", 5);
        errorAt("G/9,10,11", -1);
        errorAt("G/10,9,11", 6);
        errorAt("G/29,30,", 8);
        errorAt("G/30,30,", 7);
        errorAt("G/30,3,", 6);
        errorAt("G/30,", 5);
        errorAt("G/1,2,2,3", 7);
        errorAt("G/1,3,2,3", 7);
        errorAt("G/5,4,y", 5);
    }

    private void tooSoon() {
        check.of(TERMS, "If the text ends too soon (also behind such a number), it is the length of"
                + " the text.");
        errorAt("", 0);
        errorAt("w", 1);
        errorAt("wwwwwwwwwwwwwww", 15);
        errorAt("G/", 2);
        errorAt("G/1,", 4);
        errorAt("G/1,1", 5);
        errorAt("G/2,1", 5);
        errorAt("G/20,3", 6);
        errorAt("G/30,30", 7);
        errorAt("G/29,30,", 8);
        errorAt(FULL.substring(0, 59), 59);
        errorAt("G" + FULL.substring(3) + ",2", 60);
    }

    // ---- Promise 1

    private void theGroundAlone() {
        check.of("Promise 1: A new object", "`FloorPanels()`: Creates a house with the ground alone.");
        FloorPanels x = new FloorPanels();
        check.same("a new object", Check.seen(x),
                "about 1 0 1 3 0 0 0 0 0; level 0 0 0 -1 0 1"
                + " car -1 0 1 car -1 0 1 car -1 0 1; skipped; error 0");
        check.is("its text", x.clearText(), 0);
        check.raises("undo() of a new object", Check.STATE, () -> x.undo());
        check.raises("restore(0) of a new object", Check.STATE, () -> x.restore(0));
        check.raises("restore(1) of a new object", Check.STATE, () -> x.restore(1));
        FloorPanels other = new FloorPanels();
        x.add(0, 0);
        x.append('G');
        x.save(0);
        check.same("a second object", Check.seen(other), Check.seen(new FloorPanels()));
        check.raises("restore(0) of the second object", Check.STATE, () -> other.restore(0));
    }

    // ---- Promise 2

    private void characterCodes() {
        check.of(APPEND, "- `c`: character code, 0 to 255");
        FloorPanels x = new FloorPanels();
        check.is("append(0)", x.append(0), 1);
        check.is("errorPosition() of it", x.errorPosition(), 0);
        check.is("append(255)", x.append(255), 2);
        for (int from = 0; from < 256; from += 60) {
            FloorPanels y = new FloorPanels();
            for (int c = from; c < 256 && c < from + 60; c++) {
                check.is("append(" + c + ")", y.append(c), c - from + 1);
            }
        }
    }

    private void theNewLength() {
        check.of(APPEND, "Returns the new length of the text.");
        FloorPanels x = new FloorPanels();
        check.is("append() to none", x.append('G'), 1);
        check.is("append() to 1", x.append('/'), 2);
        for (int length = 3; length <= 60; length++) {
            check.is("append() to " + (length - 1), x.append('1'), length);
        }
        x.clearText();
        check.is("append() behind clearText()", x.append('G'), 1);
        x.load();
        check.is("append() behind load()", x.append('w'), 2);
    }

    private void noOtherCharacters() {
        check.of(APPEND, "Throws `IllegalArgumentException` if c is out of range");
        int[] wrong = {-1, 256, 'w' + 256, 'w' - 256, 'w' + 65536, Integer.MIN_VALUE, Integer.MAX_VALUE};
        for (int c : wrong) {
            check.refuses("append(" + c + ")", Check.ARGUMENT, () -> Check.busy("wGw"), x -> x.append(c));
            check.refuses("append(" + c + ") to none", Check.ARGUMENT, FloorPanels::new, x -> x.append(c));
            check.refuses("append(" + c + ") to 60", Check.ARGUMENT, () -> written(FULL), x -> x.append(c));
        }
    }

    private void noMoreThanSixty() {
        check.of(APPEND, "Throws `IllegalStateException` if the text already has 60 characters");
        check.is("append() to 59", written(FULL.substring(0, 59)).append('2'), 60);
        for (int c : new int[] {0, 'w', '1', ',', 255}) {
            check.refuses("append(" + c + ") to 60", Check.STATE, () -> written(FULL), x -> x.append(c));
        }
        FloorPanels x = written(FULL);
        check.raises("append() to 60", Check.STATE, () -> x.append('3'));
        check.raises("append() to 60 again", Check.STATE, () -> x.append('3'));
        check.is("the text is still a house", x.errorPosition(), -1);
        check.is("its length", x.clearText(), 60);
        check.is("append() then", x.append('G'), 1);
    }

    // ---- Promise 3

    private void emptiesTheText() {
        check.of(CLEAR, "`int clearText()`: Empties the text buffer.");
        FloorPanels x = written(FULL);
        x.clearText();
        check.is("errorPosition() of an empty text", x.errorPosition(), 0);
        check.raises("load() of an empty text", Check.STATE, () -> x.load());
        check.is("append() to it", x.append('G'), 1);
        check.is("errorPosition() of one letter", x.errorPosition(), -1);
        FloorPanels y = Check.busy("wGw");
        String before = Check.seen(Check.busy("wGw"));
        y.clearText();
        check.same("the state behind clearText()", Check.seen(y).replace("error 0", "error -1"), before);
    }

    private void thePreviousLength() {
        check.of(CLEAR, "Returns the previous length of the text.");
        check.is("clearText() of a new object", new FloorPanels().clearText(), 0);
        for (int length = 0; length <= 60; length++) {
            FloorPanels x = written(FULL.substring(0, length));
            check.is("clearText() of " + length, x.clearText(), length);
            check.is("clearText() again", x.clearText(), 0);
        }
    }

    // ---- Promise 4

    private void checksTheText() {
        check.of(ERROR, "Returns the error position of the text; NONE if it is a house.");
        check.onlyAnswers("errorPosition() of none", 0, FloorPanels::new, x -> x.errorPosition());
        check.onlyAnswers("errorPosition() of a house", FloorPanels.NONE, () -> Check.busy("wGw"),
                x -> x.errorPosition());
        check.onlyAnswers("errorPosition() of 60", FloorPanels.NONE, () -> written(FULL),
                x -> x.errorPosition());
        check.onlyAnswers("errorPosition() of 60 that end too soon", 60,
                () -> written(FULL.replace("wGw", "Gw") + ","), x -> x.errorPosition());
        check.onlyAnswers("errorPosition() of 60, the last is wrong", 59,
                () -> written(FULL.substring(0, 59) + "y"), x -> x.errorPosition());
        check.onlyAnswers("errorPosition() of 60, the first is wrong", 0,
                () -> written("y" + FULL.substring(1)), x -> x.errorPosition());
        FloorPanels x = written("G");
        check.is("errorPosition() of G", x.errorPosition(), -1);
        x.append('/');
        check.is("errorPosition() of G/", x.errorPosition(), 2);
        x.append('7');
        check.is("errorPosition() of G/7", x.errorPosition(), -1);
    }

    // ---- Promise 5

    private void oneHouse() {
        check.of(LOAD, "Makes the text the house:");
        check.same("the ground alone", Check.seen(Check.house("G")),
                "about 1 0 1 3 0 0 0 0 0; level 0 0 0 -1 0 1"
                + " car -1 0 1 car -1 0 1 car -1 0 1; skipped; error -1");
        check.same("all kinds and storeys", Check.seen(Check.house("xwhGjw/2,30")),
                "about 6 3 5 15 1 0 2 1 -1"
                + "; level 0 3 -1 -1 1 0 car -1 1 1 car -1 1 1 car -1 1 1"
                + "; level 1 0 -4 -1 0 1 car -1 0 1 car -1 0 1 car -1 0 1"
                + "; level 2 1 1 -1 0 1 car -1 0 1 car -1 0 1 car -1 0 1"
                + "; level 3 0 0 -1 0 1 car -1 0 1 car -1 0 1 car -1 0 1"
                + "; level 4 2 2 -1 0 1 car -1 0 1 car -1 0 1 car -1 0 1"
                + "; level 5 0 4 -1 0 1 car -1 0 1 car -1 0 1 car -1 0 1"
                + "; skipped 2 30; error -1");
        String[] houses = {"G", "wG", "Gw/1", "hhGhh", "wwwwwwwwwwwwwwwG", "Gwwwwwwwwwwwwwww/30",
            "xxxxxxxGxxxxxxxx", "Ghhhhhhhhhhhhhhh", "jjjjjjjGjjjjjjjj/1,2,3"};
        for (String before : houses) {
            for (String house : houses) {
                FloorPanels x = Check.manifold(before);
                Check.write(x, house);
                x.load();
                check.same("the state of " + house + " behind that of " + before, Check.seen(x),
                        Check.seen(Check.house(house)));
                int levels = x.about(0);
                check.is("serve(2, 0, true) then", x.serve(2, 0, true), levels);
            }
        }
        FloorPanels x = Check.house("hhhhhhhhhhhhhhhG");
        Check.write(x, "Gj");
        check.is("load() of 2 behind 16", x.load(), 2);
        check.same("the names of 2 behind 16", Check.names(x), "0 2");
        x.add(2, 0);
        check.same("the names of 3", Check.names(x), "0 2 4");
    }

    private void sayNothingAndServeAll() {
        check.of(LOAD, "all signs and buttons say nothing, all levels are served by all cars,");
        String[] texts = {"G", "wGw", "Gwwwwwwwwwwwwwww"};
        for (String text : texts) {
            FloorPanels x = Check.right(text);
            int levels = text.length();
            for (int c = 0; c <= 2; c++) {
                x.serve(c, 0, false);
                x.serve(c, levels - 1, false);
            }
            x.load();
            for (int l = 0; l < levels; l++) {
                check.is("the sign of level " + l + " of " + text, x.level(l, 2), -1);
                for (int c = 0; c <= 2; c++) {
                    check.is("car " + c + " at level " + l + " of " + text, x.button(c, l, 0), -1);
                    check.is("car " + c + " serves level " + l + " of " + text, x.button(c, l, 2), 1);
                }
            }
        }
    }

    private void justTheStoreysThatItTells() {
        check.of(LOAD, "just the storeys that it tells are skipped.");
        FloorPanels x = Check.skipping("Gw", 1, 30);
        x.load();
        check.is("the skipped storeys when it tells none", x.about(6), 0);
        for (int storey = 1; storey <= 30; storey++) {
            check.is("isSkipped(" + storey + ")", x.isSkipped(storey), false);
        }
        for (int told = 1; told <= 30; told++) {
            FloorPanels y = Check.skipping("Gw/" + told, 1, 30);
            y.load();
            for (int storey = 1; storey <= 30; storey++) {
                check.is("isSkipped(" + storey + ") when it tells " + told, y.isSkipped(storey),
                        storey == told);
            }
        }
        FloorPanels full = Check.house(FULL);
        check.is("the skipped storeys of 60 characters", full.about(6), 22);
        check.is("isSkipped(1)", full.isSkipped(1), true);
        check.is("isSkipped(22)", full.isSkipped(22), true);
        check.is("isSkipped(23)", full.isSkipped(23), false);
        FloorPanels ends = Check.house("G/1,29,30");
        check.is("isSkipped(28)", ends.isSkipped(28), false);
        check.is("isSkipped(29)", ends.isSkipped(29), true);
        check.is("isSkipped(30)", ends.isSkipped(30), true);
        check.is("isSkipped(2)", ends.isSkipped(2), false);
        check.is("the skipped storeys", ends.about(6), 3);
    }

    private void nothingIsRemembered() {
        check.of(LOAD, "Behind it no state is remembered, and both save slots are empty.");
        for (int actions : new int[] {0, 1, 13, 14, 15, 30}) {
            FloorPanels x = Check.house("Gw");
            for (int i = 0; i < actions; i++) {
                x.skip(1 + i % 30, true);
            }
            x.save(0);
            x.save(1);
            check.is("load() behind " + actions + " actions", x.load(), 2);
            check.raises("undo() behind load()", Check.STATE, () -> x.undo());
            check.raises("restore(0) behind load()", Check.STATE, () -> x.restore(0));
            check.raises("restore(1) behind load()", Check.STATE, () -> x.restore(1));
            for (int i = 1; i <= 15; i++) {
                x.skip(i, true);
            }
            for (int left = 13; left >= 0; left--) {
                check.is("undo() of actions behind load()", x.undo(), left);
            }
            check.raises("undo() of no more", Check.STATE, () -> x.undo());
            check.is("the state of the second action", x.about(6), 1);
            check.is("save(1) behind load()", x.save(1), 2);
            check.raises("restore(0), the other slot", Check.STATE, () -> x.restore(0));
            check.is("restore(1)", x.restore(1), 2);
        }
    }

    private void keepsTheText() {
        check.of(LOAD, "Keeps the text.");
        for (String text : new String[] {"G", "wGh/4", FULL}) {
            FloorPanels x = Check.house(text);
            check.is("errorPosition() behind load()", x.errorPosition(), -1);
            x.add(0, 0);
            check.is("load() again", x.load(), text.equals("G") ? 1 : 3);
            check.is("clearText() behind load()", x.clearText(), text.length());
        }
    }

    private void theLevels() {
        check.of(LOAD, "Returns the levels.");
        StringBuilder text = new StringBuilder("G");
        for (int levels = 1; levels <= 16; levels++) {
            FloorPanels x = written(text.toString());
            check.is("load() of " + levels, x.load(), levels);
            check.is("the levels then", x.about(0), levels);
            text.insert(0, 'h');
        }
        check.is("load() of 16 with storeys", written("wwwwwwwwwwwwwwwG/1,2").load(), 16);
    }

    private void notAHouse() {
        check.of(LOAD, "Throws `IllegalStateException` if the text is not a house");
        String[] texts = {"", "w", "GG", "g", "/", "G/", "G/0", "G/31", "G/1,", "G/1,1", "G/2,1", "w/1",
            "G ", "G/1 ", "wwwwwwwwwwwwwww", "wwwwwwwwwwwwwwww", "Gwwwwwwwwwwwwwwww",
            "G/1,2,3,4,5,6,7,8,9,10,11,12,13,14,15,16,17,18,19,20,21,22,2"};
        for (String text : texts) {
            check.refuses("load() of '" + text + "'", Check.STATE, () -> {
                FloorPanels x = Check.busy("wGw");
                Check.write(x, text);
                return x;
            }, x -> x.load());
        }
        check.refuses("load() of a new object", Check.STATE, FloorPanels::new, x -> x.load());
    }
}
