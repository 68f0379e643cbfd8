/** What there is, at its edges: the promises 6 to 10. */
final class EdgesOfQuestions {
    private static final String ABOUT = "Promise 6: about";
    private static final String LEVEL = "Promise 7: level";
    private static final String BUTTON = "Promise 8: button";
    private static final String SKIPPED = "Promise 9: isSkipped";
    private static final String NAMED = "Promise 10: named";

    private final Check check;

    EdgesOfQuestions(Check check) {
        this.check = check;
    }

    void run() {
        theLevels();
        theNumberOfTheGround();
        theSignsThatAreWrong();
        theButtonsThatAreWrong();
        theLevelsWithoutAName();
        theLevelsWithANameInCommon();
        theSkippedStoreys();
        theGreatestStorey();
        theLeastStorey();
        numbersOfTheHouse();
        noOtherNumbersOfTheHouse();
        levelsOfLevel();
        numbersOfALevel();
        noOtherLevels();
        noOtherNumbersOfALevel();
        carsOfButton();
        levelsOfButton();
        numbersOfAButton();
        noOtherButtons();
        noOtherNumbersOfAButton();
        storeys();
        noOtherStoreys();
        anyNumberIsAName();
        whichOne();
        notSoMany();
        kIsNegative();
    }

    private static String levels(int count) {
        return "Gwwwwwwwwwwwwwww".substring(0, count);
    }

    // ---- Promise 6

    private void theLevels() {
        check.of(ABOUT, "0: the levels;");
        check.is("about(0) of a new object", new FloorPanels().about(0), 1);
        for (int count = 1; count <= 16; count++) {
            check.is("about(0) of " + count, Check.house(levels(count)).about(0), count);
        }
        check.is("about(0) of levels walled up", Check.house("xxGxx").about(0), 5);
    }

    private void theNumberOfTheGround() {
        check.of(ABOUT, "1: the number of the ground;");
        StringBuilder text = new StringBuilder("G");
        for (int below = 0; below <= 15; below++) {
            check.is("about(1) of " + text, Check.house(text.toString()).about(1), below);
            text.insert(0, "whjx".charAt(below % 4));
        }
        FloorPanels x = Check.house("Gwwwwwwwwwwwwwww");
        x.ground(15);
        check.is("about(1) behind ground(15)", x.about(1), 15);
        x.ground(0);
        check.is("about(1) behind ground(0)", x.about(1), 0);
    }

    private void theSignsThatAreWrong() {
        check.of(ABOUT, "2: the signs that are wrong;");
        FloorPanels x = Check.house("wGwx");
        check.is("about(2) of a loaded house", x.about(2), 3);
        x.putCar(0);
        check.is("about(2) when buttons are right", x.about(2), 3);
        for (int l = 0; l < 3; l++) {
            x.putSign(l);
            check.is("about(2) with " + (l + 1) + " put right", x.about(2), 2 - l);
        }
        x.kind(2, 3);
        check.is("about(2) with one walled up", x.about(2), 1);
        check.is("about(2) of 16", Check.house(levels(16)).about(2), 16);
        check.is("about(2) of 16 that are right", Check.right(levels(16)).about(2), 0);
        check.is("about(2) of levels walled up", Check.house("xxxxxxxGxxxxxxxx").about(2), 1);
    }

    private void theButtonsThatAreWrong() {
        check.of(ABOUT, "3: the buttons that are wrong, of all cars, served or not;");
        FloorPanels x = Check.house("wGwx");
        check.is("about(3) of a loaded house", x.about(3), 9);
        x.putSign(0);
        check.is("about(3) when a sign is right", x.about(3), 9);
        x.putCar(2);
        check.is("about(3) with car 2 right", x.about(3), 6);
        for (int l = 0; l < 4; l++) {
            x.serve(0, l, false);
            x.serve(1, l, false);
            x.serve(2, l, false);
        }
        check.is("about(3) when none is served", x.about(3), 6);
        x.putButton(0, 0);
        x.putButton(1, 2);
        check.is("about(3) with two more", x.about(3), 4);
        check.is("about(3) of 16", Check.house(levels(16)).about(3), 48);
        check.is("about(3) of 16 that are right", Check.right(levels(16)).about(3), 0);
        check.is("about(3) of levels walled up", Check.house("xxxxxxxGxxxxxxxx").about(3), 3);
    }

    private void theLevelsWithoutAName() {
        check.of(ABOUT, "4: the levels without a name;");
        check.is("about(4) of a new object", new FloorPanels().about(4), 0);
        check.is("about(4) of none walled up", Check.house("whjGwhj").about(4), 0);
        check.is("about(4) of the lowest and the highest", Check.house("xwGwx").about(4), 2);
        check.is("about(4) of 15 below", Check.house("xxxxxxxxxxxxxxxG").about(4), 15);
        check.is("about(4) of 15 above", Check.house("Gxxxxxxxxxxxxxxx").about(4), 15);
        FloorPanels x = Check.house("xG");
        x.remove(0);
        check.is("about(4) when it is removed", x.about(4), 0);
    }

    private void theLevelsWithANameInCommon() {
        check.of(ABOUT, "5: the levels that have their name in common with another one;");
        check.is("about(5) of a new object", new FloorPanels().about(5), 0);
        check.is("about(5) of one half floor", Check.house("Gh").about(5), 0);
        check.is("about(5) of two", Check.house("Ghh").about(5), 2);
        check.is("about(5) of two, on both sides", Check.house("hGh").about(5), 2);
        check.is("about(5) of half and joined ones", Check.house("jhGhjwhjj").about(5), 6);
        check.is("about(5) of 15", Check.house("Ghhhhhhhhhhhhhhh").about(5), 15);
        check.is("about(5) of levels walled up, which have none", Check.house("xxxGxxx").about(5), 0);
        check.is("about(5) of whole levels", Check.house(levels(16)).about(5), 0);
    }

    private void theSkippedStoreys() {
        check.of(ABOUT, "6: the storeys that are skipped;");
        FloorPanels x = new FloorPanels();
        check.is("about(6) of a new object", x.about(6), 0);
        x.skip(1, true);
        check.is("about(6) of the lowest", x.about(6), 1);
        x.skip(30, true);
        check.is("about(6) of the lowest and the highest", x.about(6), 2);
        check.is("about(6) of all", Check.skipping("Gw", 1, 30).about(6), 30);
        x.skip(1, false);
        x.skip(30, false);
        check.is("about(6) of none any more", x.about(6), 0);
    }

    private void theGreatestStorey() {
        check.of(ABOUT, "7: the greatest storey of a level with a name;");
        check.is("about(7) of a new object", new FloorPanels().about(7), 0);
        check.is("about(7) when all others are below", Check.house("wwwG").about(7), 0);
        check.is("about(7) of half and joined ones", Check.house("Ghj").about(7), 0);
        check.is("about(7) of 15 above", Check.house(levels(16)).about(7), 15);
        check.is("about(7) of 15 above 30 skipped", Check.skipping(levels(16), 1, 30).about(7), 45);
        check.is("about(7) of one above 30 skipped", Check.skipping("Gw", 1, 30).about(7), 31);
        check.is("about(7) of half and joined ones above", Check.house("Gwwhj").about(7), 2);
        FloorPanels x = Check.house("Gww");
        x.kind(2, 3);
        check.is("about(7) when the highest is walled up", x.about(7), 1);
        x.kind(1, 3);
        check.is("about(7) when all are walled up", x.about(7), 0);
    }

    private void theLeastStorey() {
        check.of(ABOUT, "8: the least one");
        check.is("about(8) of a new object", new FloorPanels().about(8), 0);
        check.is("about(8) when all others are above", Check.house("Gwww").about(8), 0);
        check.is("about(8) of half and joined ones", Check.house("jhG").about(8), 0);
        check.is("about(8) of 15 below", Check.house("wwwwwwwwwwwwwwwG").about(8), -15);
        check.is("about(8) of a half one below", Check.house("hwG").about(8), -1);
        check.is("about(8) of a joined one below", Check.house("jwG").about(8), -1);
        check.is("about(8) of all skipped", Check.skipping("wwG", 1, 30).about(8), -2);
        FloorPanels x = Check.house("wwG");
        x.kind(0, 3);
        check.is("about(8) when the lowest is walled up", x.about(8), -1);
        x.kind(1, 3);
        check.is("about(8) when all are walled up", x.about(8), 0);
    }

    private void numbersOfTheHouse() {
        check.of(ABOUT, "- `what`: 0: the levels; 1: the number of the ground; 2: the signs that are"
                + " wrong; 3: the buttons that are wrong, of all cars, served or not; 4: the levels"
                + " without a name; 5: the levels that have their name in common with another one; 6:"
                + " the storeys that are skipped; 7: the greatest storey of a level with a name; 8: the"
                + " least one");
        int[] due = {10, 4, 8, 24, 2, 2, 3, 2, -2};
        for (int what = 0; what <= 8; what++) {
            int number = what;
            check.onlyAnswers("about(" + what + ")", due[what], () -> Check.house("whxwGjjwhx/1,4,30"),
                    x -> x.about(number));
        }
    }

    private void noOtherNumbersOfTheHouse() {
        check.of(ABOUT, "Throws `IllegalArgumentException` if what is not 0 to 8");
        for (int what : new int[] {-1, 9, 16, 256, Integer.MIN_VALUE, Integer.MAX_VALUE}) {
            check.refuses("about(" + what + ")", Check.ARGUMENT, () -> Check.busy("whGw"),
                    x -> x.about(what));
        }
    }

    // ---- Promise 7

    private void levelsOfLevel() {
        check.of(LEVEL, "- `l`: level");
        check.is("level(0, 1) of one", new FloorPanels().level(0, 1), 0);
        FloorPanels x = Check.house("wwwwwwwGwwwwwwww");
        for (int l = 0; l <= 15; l++) {
            check.is("level(" + l + ", 1)", x.level(l, 1), 4 * (l - 7));
        }
    }

    private void numbersOfALevel() {
        check.of(LEVEL, "- `what`: 0: its kind; 1: its name, NONE if it has none; 2: what its sign says;"
                + " 3: 1 if its sign is right, otherwise 0; 4: how many levels have its name, itself"
                + " included, 0 if it has none");
        // Walls whose signs say nothing and a name, then signs that are right, wrong, empty.
        int[][] due = {{3, -1, -1, 1, 0}, {3, -1, -4, 0, 0}, {0, 0, 0, 1, 1}, {1, 1, 1, 1, 2},
            {1, 1, 2, 0, 2}, {2, 2, -1, 0, 1}};
        Check.Maker maker = () -> {
            FloorPanels x = Check.house("xwGhjj");
            x.putSign(1);
            x.putSign(2);
            x.putSign(3);
            x.putSign(4);
            x.kind(1, 3);
            x.kind(4, 1);
            return x;
        };
        for (int l = 0; l < 6; l++) {
            for (int what = 0; what <= 4; what++) {
                int level = l;
                int number = what;
                check.onlyAnswers("level(" + l + ", " + what + ")", due[l][what], maker,
                        x -> x.level(level, number));
            }
        }
        check.is("how many of 15", Check.house("Ghhhhhhhhhhhhhhh").level(1, 4), 15);
    }

    private void noOtherLevels() {
        check.of(LEVEL, "Throws `IndexOutOfBoundsException` if there is no such level");
        for (int what = 0; what <= 4; what++) {
            int number = what;
            for (int l : new int[] {-1, 4, 15, 16, Integer.MIN_VALUE, Integer.MAX_VALUE}) {
                check.refuses("level(" + l + ", " + what + ") of 4", Check.INDEX,
                        () -> Check.busy("whGw"), x -> x.level(l, number));
            }
            check.refuses("level(1, " + what + ") of one", Check.INDEX, FloorPanels::new,
                    x -> x.level(1, number));
            check.refuses("level(16, " + what + ") of 16", Check.INDEX, () -> Check.house(levels(16)),
                    x -> x.level(16, number));
            check.refuses("level(-1, " + what + ") of 16", Check.INDEX, () -> Check.house(levels(16)),
                    x -> x.level(-1, number));
        }
        FloorPanels x = Check.house("Gw");
        x.remove(1);
        check.raises("level(1, 0) of a level that is gone", Check.INDEX, () -> x.level(1, 0));
        check.refuses("level(4, 5) of 4, both wrong", Check.INDEX, () -> Check.busy("whGw"),
                y -> y.level(4, 5));
        check.refuses("level(-1, -1), both wrong", Check.INDEX, () -> Check.busy("whGw"),
                y -> y.level(-1, -1));
    }

    private void noOtherNumbersOfALevel() {
        check.of(LEVEL, "Throws `IllegalArgumentException` if what is not 0 to 4");
        for (int what : new int[] {-1, 5, Integer.MIN_VALUE, Integer.MAX_VALUE}) {
            for (int l = 0; l <= 3; l++) {
                int level = l;
                check.refuses("level(" + l + ", " + what + ")", Check.ARGUMENT,
                        () -> Check.busy("whGx"), x -> x.level(level, what));
            }
        }
    }

    // ---- Promise 8

    private void carsOfButton() {
        check.of(BUTTON, "- `c`: car");
        FloorPanels x = Check.house("wGw");
        x.putButton(0, 0);
        x.putButton(1, 1);
        x.putButton(2, 2);
        int[][] due = {{-4, -1, -1}, {-1, 0, -1}, {-1, -1, 4}};
        for (int c = 0; c <= 2; c++) {
            for (int l = 0; l <= 2; l++) {
                check.is("button(" + c + ", " + l + ", 0)", x.button(c, l, 0), due[c][l]);
                check.is("button(" + c + ", " + l + ", 1)", x.button(c, l, 1), c == l ? 1 : 0);
            }
        }
    }

    private void levelsOfButton() {
        check.of(BUTTON, "- `l`: level");
        FloorPanels x = Check.right("wwwwwwwGwwwwwwww");
        for (int c = 0; c <= 2; c++) {
            for (int l = 0; l <= 15; l++) {
                check.is("button(" + c + ", " + l + ", 0)", x.button(c, l, 0), 4 * (l - 7));
            }
        }
    }

    private void numbersOfAButton() {
        check.of(BUTTON, "- `what`: 0: what it says; 1: 1 if it is right, otherwise 0; 2: 1 if the car"
                + " serves the level, otherwise 0");
        Check.Maker maker = () -> {
            FloorPanels x = Check.house("wGx");
            x.putButton(2, 0);
            x.serve(2, 1, false);
            x.exchange(2, 0, 2);
            return x;
        };
        int[][] due = {{-1, 0, 1}, {-1, 0, 0}, {-4, 0, 1}};
        for (int l = 0; l <= 2; l++) {
            for (int what = 0; what <= 2; what++) {
                int level = l;
                int number = what;
                check.onlyAnswers("button(2, " + l + ", " + what + ")", due[l][what], maker,
                        x -> x.button(2, level, number));
            }
        }
        FloorPanels x = Check.house("xG");
        check.is("a button of a wall that says nothing is right", x.button(1, 0, 1), 1);
        x.putButton(1, 1);
        check.is("what it says, put right", x.button(1, 1, 0), 0);
        check.is("it is right", x.button(1, 1, 1), 1);
        check.is("the level is served", x.button(1, 1, 2), 1);
    }

    private void noOtherButtons() {
        check.of(BUTTON, "Throws `IndexOutOfBoundsException` if there is no such car or level");
        int[][] wrong = {{-1, 0}, {3, 0}, {0, -1}, {0, 4}, {2, -1}, {2, 4}, {-1, -1}, {3, 4}, {0, 16},
            {Integer.MIN_VALUE, 0}, {Integer.MAX_VALUE, 0}, {0, Integer.MIN_VALUE},
            {0, Integer.MAX_VALUE}};
        for (int[] w : wrong) {
            for (int what = -1; what <= 3; what++) {
                int number = what;
                check.refuses("button(" + w[0] + ", " + w[1] + ", " + what + ")", Check.INDEX,
                        () -> Check.busy("whGw"), x -> x.button(w[0], w[1], number));
            }
        }
        check.refuses("button(2, 16, 0) of 16", Check.INDEX, () -> Check.house(levels(16)),
                x -> x.button(2, 16, 0));
        check.refuses("button(0, 1, 0) of one", Check.INDEX, FloorPanels::new, x -> x.button(0, 1, 0));
    }

    private void noOtherNumbersOfAButton() {
        check.of(BUTTON, "Throws `IllegalArgumentException` if what is not 0 to 2");
        for (int what : new int[] {-1, 3, Integer.MIN_VALUE, Integer.MAX_VALUE}) {
            check.refuses("button(0, 0, " + what + ")", Check.ARGUMENT, () -> Check.busy("whGw"),
                    x -> x.button(0, 0, what));
            check.refuses("button(2, 3, " + what + ")", Check.ARGUMENT, () -> Check.busy("whGw"),
                    x -> x.button(2, 3, what));
        }
    }

    // ---- Promise 9

    private void storeys() {
        check.of(SKIPPED, "- `storey`: 1 to 30");
        FloorPanels ends = Check.house("G/1,30");
        for (int storey = 1; storey <= 30; storey++) {
            check.is("isSkipped(" + storey + ")", ends.isSkipped(storey), storey == 1 || storey == 30);
        }
        for (int skipped = 1; skipped <= 30; skipped++) {
            FloorPanels x = new FloorPanels();
            x.skip(skipped, true);
            for (int storey = 1; storey <= 30; storey++) {
                check.is("isSkipped(" + storey + ") behind skip(" + skipped + ", true)",
                        x.isSkipped(storey), storey == skipped);
            }
        }
        check.onlyAnswers("isSkipped(30)", 1, () -> Check.house("G/1,30"), x -> x.isSkipped(30) ? 1 : 0);
        check.onlyAnswers("isSkipped(1)", 1, () -> Check.house("G/1,30"), x -> x.isSkipped(1) ? 1 : 0);
        check.onlyAnswers("isSkipped(1), which is not", 0, () -> Check.busy("Gw"),
                x -> x.isSkipped(1) ? 1 : 0);
    }

    private void noOtherStoreys() {
        check.of(SKIPPED, "Throws `IllegalArgumentException` if storey is out of range");
        for (int storey : new int[] {0, 31, -1, 32, 33, 62, Integer.MIN_VALUE, Integer.MAX_VALUE}) {
            check.refuses("isSkipped(" + storey + ")", Check.ARGUMENT, () -> Check.busy("Gw"),
                    x -> x.isSkipped(storey) ? 1 : 0);
            check.refuses("isSkipped(" + storey + ") when all are", Check.ARGUMENT,
                    () -> Check.skipping("Gw", 1, 30), x -> x.isSkipped(storey) ? 1 : 0);
        }
    }

    // ---- Promise 10

    private void anyNumberIsAName() {
        check.of(NAMED, "- `name`: any number");
        for (int name : new int[] {-1, -2, -3, 2, 3, 4, 60, Integer.MIN_VALUE, Integer.MAX_VALUE}) {
            check.onlyAnswers("named(" + name + ", 0)", FloorPanels.NONE, () -> Check.house("xwGhxh"),
                    x -> x.named(name, 0));
        }
        check.is("named(-4, 0)", Check.house("xwGhxh").named(-4, 0), 1);
        FloorPanels low = Check.house("wwwwwwwwwwwwwwwG");
        check.is("the least name", low.named(-60, 0), 0);
        check.is("the name of the ground", low.named(0, 0), 15);
        check.is("a name below it", low.named(-64, 0), -1);
        FloorPanels high = Check.skipping(levels(16), 1, 30);
        check.is("the greatest name", high.named(180, 0), 15);
        check.is("a name above it", high.named(184, 0), -1);
        check.is("a name of a skipped storey", high.named(120, 0), -1);
        check.is("nothing, which no level has for its name", Check.house("xGx").named(-1, 0), -1);
        FloorPanels said = Check.right("Gw");
        said.skip(1, true);
        check.is("a name that only signs and buttons say", said.named(4, 0), -1);
    }

    private void whichOne() {
        check.of(NAMED, "- `k`: which one, from 0, the lowest first");
        FloorPanels x = Check.house("hwhGhhwhx");
        int[] levels = {2, 4, 5};
        for (int k = 0; k < 3; k++) {
            check.is("named(1, " + k + ")", x.named(1, k), levels[k]);
        }
        check.is("named(-3, 0)", x.named(-3, 0), 0);
        check.is("named(5, 0)", x.named(5, 0), 7);
        FloorPanels full = Check.house("Ghhhhhhhhhhhhhhh");
        for (int k = 0; k < 15; k++) {
            check.is("named(1, " + k + ") of 15", full.named(1, k), k + 1);
        }
    }

    private void notSoMany() {
        check.of(NAMED, "Returns its number; NONE if there are not so many.");
        check.is("named(0, 0) of one", new FloorPanels().named(0, 0), 0);
        for (int k : new int[] {1, 2, 15, 16, Integer.MAX_VALUE}) {
            check.onlyAnswers("named(0, " + k + ") of one", -1, FloorPanels::new, x -> x.named(0, k));
        }
        check.is("named(1, 1) of two", Check.house("hGh").named(1, 1), 2);
        check.is("named(1, 2) of two", Check.house("hGh").named(1, 2), -1);
        check.is("named(1, 15) of 15", Check.house("Ghhhhhhhhhhhhhhh").named(1, 15), -1);
        check.is("named(-1, 0) of walls", Check.house("xxG").named(-1, 0), -1);
        check.is("named(-1, 1) of walls", Check.house("xxG").named(-1, 1), -1);
    }

    private void kIsNegative() {
        check.of(NAMED, "Throws `IllegalArgumentException` if k is negative");
        for (int k : new int[] {-1, -2, Integer.MIN_VALUE}) {
            for (int name : new int[] {0, 1, -1, 99, Integer.MIN_VALUE, Integer.MAX_VALUE}) {
                check.refuses("named(" + name + ", " + k + ")", Check.ARGUMENT,
                        () -> Check.busy("hGh"), x -> x.named(name, k));
            }
        }
    }
}
