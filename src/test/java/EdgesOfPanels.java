/** What the section "Terms" says of cars, signs, buttons, rides and the constant, at its edges. */
final class EdgesOfPanels {
    private static final String TERMS = "Terms";

    private final Check check;

    EdgesOfPanels(Check check) {
        this.check = check;
    }

    void run() {
        threeCars();
        eachLevelIsServedAtFirst();
        aSignAndAButtonForEachLevel();
        newOnesSayNothing();
        rightOrWrong();
        wrongOnesOfAFullHouse();
        whereARideBegins();
        none();
        fiveHundredAndTwelveCalls();
    }

    private void threeCars() {
        check.of(TERMS, "There are 3 cars, 0 to 2.");
        for (int c = 0; c <= 2; c++) {
            FloorPanels x = Check.house("Gw");
            check.is("button(" + c + ", 0, 2)", x.button(c, 0, 2), 1);
            check.is("serve(" + c + ", 1, false)", x.serve(c, 1, false), 1);
            check.is("putButton(" + c + ", 0)", x.putButton(c, 0), -1);
            check.is("putCar(" + c + ")", x.putCar(c), 1);
            check.is("exchange(" + c + ", 0, 1)", x.exchange(c, 0, 1), 2);
            check.is("goes(" + c + ", 0, 4)", x.goes(c, 0, 4), -1);
            check.is("astray(" + c + ")", x.astray(c), 0);
            for (int other = 0; other <= 2; other++) {
                check.same("the buttons of car " + other, Check.buttons(x, other),
                        other == c ? "4 0" : "-1 -1");
                check.same("what car " + other + " serves", Check.served(x, other),
                        other == c ? "1 0" : "1 1");
            }
        }
        for (int c : new int[] {-1, 3, Integer.MIN_VALUE, Integer.MAX_VALUE}) {
            FloorPanels x = Check.house("Gw");
            check.raises("button(" + c + ", 0, 2)", Check.INDEX, () -> x.button(c, 0, 2));
            check.raises("serve(" + c + ", 1, false)", Check.INDEX, () -> x.serve(c, 1, false));
            check.raises("putButton(" + c + ", 0)", Check.INDEX, () -> x.putButton(c, 0));
            check.raises("putCar(" + c + ")", Check.INDEX, () -> x.putCar(c));
            check.raises("exchange(" + c + ", 0, 1)", Check.INDEX, () -> x.exchange(c, 0, 1));
            check.raises("goes(" + c + ", 0, 4)", Check.INDEX, () -> x.goes(c, 0, 4));
            check.raises("astray(" + c + ")", Check.INDEX, () -> x.astray(c));
        }
    }

    private void eachLevelIsServedAtFirst() {
        check.of(TERMS, "A car serves a level, or not, at first each one, also one that is added.");
        FloorPanels x = new FloorPanels();
        for (int c = 0; c <= 2; c++) {
            check.is("car " + c + " serves the first level", x.button(c, 0, 2), 1);
            x.serve(c, 0, false);
        }
        x.add(0, 0);
        x.add(2, 3);
        for (int c = 0; c <= 2; c++) {
            check.same("what car " + c + " serves", Check.served(x, c), "1 0 1");
            x.serve(c, 0, false);
            x.serve(c, 2, false);
        }
        x.remove(2);
        x.remove(0);
        x.add(1, 1);
        x.add(0, 2);
        for (int c = 0; c <= 2; c++) {
            check.same("what car " + c + " serves when levels come again", Check.served(x, c), "1 0 1");
        }
        FloorPanels full = Check.house("Gwwwwwwwwwwwwww");
        full.serve(1, 14, false);
        full.add(15, 0);
        check.is("car 1 serves the 16th level", full.button(1, 15, 2), 1);
        check.is("car 1 serves the 15th level", full.button(1, 14, 2), 0);
    }

    private void aSignAndAButtonForEachLevel() {
        check.of(TERMS, "Beside the door of each level there is a sign; in each car there is a button"
                + " for each level.");
        FloorPanels one = new FloorPanels();
        check.is("the wrong signs of one level", one.about(2), 1);
        check.is("the wrong buttons of one level", one.about(3), 3);
        FloorPanels x = Check.house("wwwwwwwGwwwwwwww");
        check.is("the wrong signs of 16 levels", x.about(2), 16);
        check.is("the wrong buttons of 16 levels", x.about(3), 48);
        x.putSign(0);
        x.putSign(15);
        x.putButton(0, 0);
        x.putButton(2, 15);
        check.is("the wrong signs then", x.about(2), 14);
        check.is("the wrong buttons then", x.about(3), 46);
        check.is("the sign of level 0", x.level(0, 2), -28);
        check.is("the sign of level 15", x.level(15, 2), 32);
        check.is("the button of car 0 for level 0", x.button(0, 0, 0), -28);
        check.is("the button of car 2 for level 15", x.button(2, 15, 0), 32);
        check.is("the button of car 0 for level 15", x.button(0, 15, 0), -1);
        check.is("the button of car 1 for level 0", x.button(1, 0, 0), -1);
    }

    private void newOnesSayNothing() {
        check.of(TERMS, "A sign or a button says a name, or nothing; those of a new level (also of"
                + " the first one) say nothing.");
        FloorPanels x = new FloorPanels();
        check.same("the sign of the first level", Check.signs(x), "-1");
        for (int c = 0; c <= 2; c++) {
            check.same("its button in car " + c, Check.buttons(x, c), "-1");
        }
        Check.putAllRight(x);
        x.add(0, 0);
        x.add(2, 1);
        check.same("the signs with new levels", Check.signs(x), "-1 0 -1");
        for (int c = 0; c <= 2; c++) {
            check.same("the buttons of car " + c + " with new levels", Check.buttons(x, c), "-1 0 -1");
        }
        FloorPanels again = Check.right("wGw");
        again.remove(2);
        again.remove(0);
        again.add(1, 0);
        again.add(0, 0);
        check.same("the signs of levels that come again", Check.signs(again), "-1 0 -1");
        for (int c = 0; c <= 2; c++) {
            check.same("their buttons in car " + c, Check.buttons(again, c), "-1 0 -1");
        }
        FloorPanels loaded = Check.right("wGw");
        loaded.load();
        check.same("the signs behind load()", Check.signs(loaded), "-1 -1 -1");
    }

    /** With and without a name; a sign that says the name, another name, nothing. */
    private void rightOrWrong() {
        check.of(TERMS, "It is right if it says the name that its level has now (or nothing, if it"
                + " has none); otherwise it is wrong.");
        FloorPanels x = Check.house("Gw");
        rightAre(x, "a name, and nothing said", 0);
        putLevel(x);
        rightAre(x, "a name, and the same said", 1);
        x.skip(1, true);
        rightAre(x, "a name, and another said", 0);
        x.skip(1, false);
        rightAre(x, "a name again, and the same said", 1);
        x.kind(1, 3);
        rightAre(x, "no name, and one said", 0);
        putLevel(x);
        rightAre(x, "no name, and nothing said", 1);
        x.kind(1, 0);
        rightAre(x, "a name once more, and nothing said", 0);
        FloorPanels y = Check.house("hGh");
        y.putSign(0);
        check.is("a sign of a name in common", y.level(0, 3), 1);
        check.is("the other one of that name", y.level(2, 3), 0);
        FloorPanels z = Check.house("Gj");
        z.putSign(1);
        z.kind(1, 1);
        check.is("a sign of the storey, of another kind", z.level(1, 3), 0);
    }

    private void putLevel(FloorPanels x) {
        x.putSign(1);
        for (int c = 0; c <= 2; c++) {
            x.putButton(c, 1);
        }
    }

    private void rightAre(FloorPanels x, String when, int due) {
        check.is("the sign is right: " + when, x.level(1, 3), due);
        for (int c = 0; c <= 2; c++) {
            check.is("the button of car " + c + " is right: " + when, x.button(c, 1, 1), due);
        }
        check.is("the wrong signs: " + when, x.about(2), 2 - due);
        check.is("the wrong buttons: " + when, x.about(3), 3 + 3 * (1 - due));
    }

    private void wrongOnesOfAFullHouse() {
        check.of(TERMS, "otherwise it is wrong.");
        FloorPanels x = Check.right("Gwwwwwwwwwwwwwww");
        check.is("none is wrong", x.about(2) + x.about(3), 0);
        x.skip(1, true);
        check.is("the signs above are wrong", x.about(2), 15);
        check.is("the buttons above are wrong", x.about(3), 45);
        x.ground(15);
        check.is("the signs are wrong, for another ground", x.about(2), 16);
        check.is("the buttons are wrong, for another ground", x.about(3), 48);
    }

    private void whereARideBegins() {
        check.of(TERMS, "A ride in a car begins at a level that has a name and is served by the car,"
                + " and a name is asked for: it goes to the lowest other level that has a name, is"
                + " served by the car, and whose button in this car says the name that is asked for"
                + " (one that says nothing is never meant).");
        FloorPanels x = Check.right("hGhhwx");
        check.is("to the lowest", x.goes(0, 4, 1), 0);
        check.is("to the lowest other one", x.goes(0, 0, 1), 2);
        x.serve(0, 0, false);
        check.is("past one that is not served", x.goes(0, 4, 1), 2);
        check.is("in a car that serves it", x.goes(1, 4, 1), 0);
        check.is("from one that is not served", x.goes(0, 0, 1), -1);
        check.is("from one that another car serves", x.goes(1, 0, 1), 2);
        x.kind(2, 3);
        check.is("past one that has no name any more", x.goes(0, 4, 1), 3);
        check.is("from one that has no name", x.goes(0, 2, 1), -1);
        check.is("by a name that only the own button says", x.goes(0, 1, 0), -1);
        check.is("by a name that none says", x.goes(0, 1, 8), -1);
        check.is("by nothing", x.goes(0, 1, -1), -1);
        FloorPanels blank = Check.house("wGw");
        check.is("by nothing, where all say nothing", blank.goes(0, 1, -1), -1);
        check.is("by the name of a level, where all say nothing", blank.goes(0, 1, 4), -1);
        blank.putButton(2, 0);
        check.is("by what a button in this car says", blank.goes(2, 1, -4), 0);
        check.is("by what a button in another car says", blank.goes(1, 1, -4), -1);
        blank.exchange(2, 0, 2);
        check.is("by what a wrong button says", blank.goes(2, 1, -4), 2);
        FloorPanels full = Check.right("wwwwwwwwwwwwwwwG");
        check.is("from the highest to the lowest", full.goes(0, 15, -60), 0);
        check.is("from the lowest to the highest", full.goes(2, 0, 0), 15);
    }

    private void none() {
        check.of(TERMS, "The constants: `NONE = -1`: There is no such result; as what a sign says,"
                + " nothing.");
        check.is("NONE", FloorPanels.NONE, -1);
        FloorPanels x = Check.house("xG");
        check.is("what a sign says at first", x.level(1, 2), -1);
        check.is("the name of a level without one", x.level(0, 1), -1);
        check.is("named(4, 0)", x.named(4, 0), -1);
        check.is("goes(0, 0, 0)", x.goes(0, 0, 0), -1);
        check.is("rides(0, 1)", x.rides(0, 1), -1);
        check.is("bestSkip()", x.bestSkip(), -1);
        check.is("runScript(1, 7000)", x.runScript(1, 7000), -1);
        Check.write(x, "G");
        check.is("errorPosition()", x.errorPosition(), -1);
    }

    private void fiveHundredAndTwelveCalls() {
        check.of("What it is", "An object is used for at most 512 calls after it has been made; what"
                + " later calls answer is free.");
        FloorPanels x = new FloorPanels();
        for (int i = 0; i < 498; i++) {
            int storey = 1 + i % 30;
            boolean is = i / 30 % 2 == 0;
            check.is("call " + (i + 1), x.skip(storey, is), is ? storey : 30 - storey);
        }
        for (int left = 13; left >= 0; left--) {
            check.is("call " + (512 - left) + ", undo()", x.undo(), left);
        }
        FloorPanels y = new FloorPanels();
        for (int i = 0; i < 255; i++) {
            check.is("call " + (2 * i + 1) + ", add()", y.add(i % 2, 0), 2);
            check.is("call " + (2 * i + 2) + ", remove()", y.remove(i % 2), 1);
        }
        check.is("call 511, simulate()", y.simulate(0, 1) % 1000 <= 2, true);
        check.is("call 512, undo()", y.undo(), 13);
    }
}
