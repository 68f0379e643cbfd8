/**
 * The sentences of the document that name no edge: what the object is for, what stands in
 * which section of the face, and what each call does in ordinary use.
 */
final class PlainSentences {
    private static final String TERMS = "Terms";

    private final Check check;

    PlainSentences(Check check) {
        this.check = check;
    }

    void run() {
        whatItTells();
        changesCanBeUndone();
        whatTheMethodSays();
        textCalls();
        whatThereIs();
        actions();
        scriptsAndSimulations();
        saveSlots();
        appendsACharacter();
        checksTheText();
        aNumber();
        aNumberOfALevel();
        aNumberOfAButton();
        whetherAStoreyIsSkipped();
        aLevelWithAName();
        whetherACarServesALevel();
        putsTheSignRight();
        putsAButtonRight();
        putsAllButtonsRight();
        exchangesWhatTwoButtonsSay();
        whereARideGoes();
        buttonsThatLeadAstray();
        howManyRides();
        theStoreyThatShouldBeSkipped();
        theWorstCar();
        simulatesTurns();
    }

    // ---- Terms

    private void whatItTells() {
        check.of(TERMS, "It tells the name of each level, what is wrong, where a button leads, how many"
                + " rides one needs, what another numbering would make wrong.");
        FloorPanels x = Check.right("wGhww");
        check.same("the names", Check.names(x), "-4 0 1 4 8");
        check.is("goes(0, 1, 8)", x.goes(0, 1, 8), 4);
        check.is("rides(1, 4)", x.rides(1, 4), 1);
        check.is("ifSkipped(1)", x.ifSkipped(1), 8);
        check.is("ifSkipped(2)", x.ifSkipped(2), 4);
        x.skip(1, true);
        check.same("the names when 1 is skipped", Check.names(x), "-4 0 1 8 12");
        check.is("the wrong signs then", x.about(2), 2);
        check.is("the wrong buttons then", x.about(3), 6);
        check.is("goes(0, 1, 8) then", x.goes(0, 1, 8), 4);
        check.is("goes(0, 1, 12) then", x.goes(0, 1, 12), -1);
    }

    private void changesCanBeUndone() {
        check.of(TERMS, "Changes can be undone.");
        Check.Maker maker = () -> Check.busy("whGjxw");
        String before = Check.seen(maker.make());
        for (Check.Ask change : changes()) {
            FloorPanels x = maker.make();
            change.of(x);
            check.is("it is the same behind a change", Check.seen(x).equals(before), false);
            check.is("undo()", x.undo(), 9);
            check.same("the state behind undo()", Check.seen(x), before);
        }
    }

    /** One of each action but undo. */
    private static Check.Ask[] changes() {
        return new Check.Ask[] {x -> x.add(3, 1), x -> x.remove(1), x -> x.kind(5, 3),
            x -> x.ground(0), x -> x.skip(30, true), x -> x.serve(0, 1, false), x -> x.putSign(3),
            x -> x.putButton(2, 3), x -> x.putCar(2), x -> x.exchange(0, 1, 2)};
    }

    private void whatTheMethodSays() {
        check.of(TERMS, "IllegalStateException means what the method says.");
        FloorPanels x = Check.right("wGh");
        check.raises("remove(1)", Check.STATE, () -> x.remove(1));
        check.raises("kind(1, 1)", Check.STATE, () -> x.kind(1, 1));
        check.raises("ground(2)", Check.STATE, () -> x.ground(2));
        check.raises("restore(0)", Check.STATE, () -> x.restore(0));
        x.append('w');
        x.append('G');
        check.raises("load()", Check.STATE, () -> x.load());
        check.is("remove(2)", x.remove(2), 2);
        check.is("kind(1, 0)", x.kind(1, 0), 0);
        check.is("ground(0)", x.ground(0), 1);
        check.is("save(0)", x.save(0), 2);
        check.is("restore(0)", x.restore(0), 2);
        check.raises("undo()", Check.STATE, () -> x.undo());
        FloorPanels full = Check.house("Gwwwwwwwwwwwwwww");
        check.raises("add(0, 0) to 16", Check.STATE, () -> full.add(0, 0));
        check.raises("ifAdded(0, 0) to 16", Check.STATE, () -> full.ifAdded(0, 0));
        for (int length = 16; length < 60; length++) {
            full.append('x');
        }
        check.raises("append('x') to 60", Check.STATE, () -> full.append('x'));
    }

    private void textCalls() {
        check.of(TERMS, "Ahead of the calls `append`, `clearText`, `errorPosition`, `load` the interface"
                + " says: ---- text.");
        FloorPanels x = new FloorPanels();
        check.is("append('w')", x.append('w'), 1);
        check.is("append('G')", x.append('G'), 2);
        check.is("errorPosition()", x.errorPosition(), -1);
        check.is("the levels ahead of load()", x.about(0), 1);
        check.is("load()", x.load(), 2);
        check.is("the levels behind load()", x.about(0), 2);
        check.is("clearText()", x.clearText(), 2);
        check.is("the levels behind clearText()", x.about(0), 2);
        check.raises("undo() of none of them", Check.STATE, () -> x.undo());
    }

    private void whatThereIs() {
        check.of(TERMS, "Ahead of the calls `about`, `level`, `button`, `isSkipped`, `named` the interface"
                + " says: ---- what there is.");
        Check.Maker maker = () -> Check.right("whGjxw/1");
        check.onlyAnswers("about(0)", 6, maker, x -> x.about(0));
        check.onlyAnswers("level(5, 1)", 8, maker, x -> x.level(5, 1));
        check.onlyAnswers("button(2, 0, 0)", -4, maker, x -> x.button(2, 0, 0));
        check.onlyAnswers("isSkipped(1)", 1, maker, x -> x.isSkipped(1) ? 1 : 0);
        check.onlyAnswers("named(2, 0)", 3, maker, x -> x.named(2, 0));
    }

    private void actions() {
        check.of(TERMS, "Ahead of the calls `add`, `remove`, `kind`, `ground`, `skip`, `serve`, `putSign`,"
                + " `putButton`, `putCar`, `exchange`, `undo` the interface says: ---- actions.");
        FloorPanels x = Check.house("whGjxw");
        int remembered = 0;
        for (Check.Ask change : changes()) {
            change.of(x);
            remembered++;
            check.is("undo() of the action " + remembered, x.undo(), remembered - 1);
            change.of(x);
        }
        for (int left = 9; left >= 0; left--) {
            check.is("undo() of ten actions", x.undo(), left);
        }
        check.raises("undo() of no more", Check.STATE, () -> x.undo());
    }

    private void scriptsAndSimulations() {
        check.of(TERMS, "Ahead of the calls `runScript`, `simulate` the interface says: ---- scripts,"
                + " simulations.");
        Check.Maker maker = () -> Check.right("wGw");
        check.onlyAnswers("runScript: add, skip", -1, maker, x -> x.runScript(2, 1030_4011L));
        check.onlyAnswers("runScript: remove(1)", 0, maker, x -> x.runScript(1, 2010));
        check.onlyAnswers("simulate of a turn add(0, 0)", 4004, maker, x -> x.simulate(seedOf(0), 1));
    }

    private void saveSlots() {
        check.of(TERMS, "Ahead of the calls `save`, `restore` the interface says: ---- save slots.");
        FloorPanels x = Check.right("wGw");
        String before = Check.seen(Check.right("wGw"));
        check.is("save(1)", x.save(1), 3);
        x.remove(0);
        x.skip(1, true);
        check.is("restore(1)", x.restore(1), 3);
        check.same("the state then", Check.seen(x), before);
    }

    // ---- Promises 2 to 10

    private void appendsACharacter() {
        check.of("Promise 2: append", "Appends a character to the text buffer.");
        FloorPanels x = new FloorPanels();
        String text = "whGjx/2,13";
        for (int i = 0; i < text.length(); i++) {
            check.is("append(" + text.charAt(i) + ")", x.append(text.charAt(i)), i + 1);
        }
        check.is("load()", x.load(), 5);
        check.same("the names", Check.names(x), "-4 1 0 2 -1");
        check.is("isSkipped(2)", x.isSkipped(2), true);
        check.is("isSkipped(13)", x.isSkipped(13), true);
        check.is("about(6)", x.about(6), 2);
    }

    private void checksTheText() {
        check.of("Promise 4: errorPosition", "Checks the text.");
        FloorPanels x = new FloorPanels();
        String text = "wG/1,12";
        // Behind each of its characters it is a house, or ends too soon.
        int[] due = {1, -1, 3, -1, 5, 6, -1};
        for (int i = 0; i < text.length(); i++) {
            x.append(text.charAt(i));
            check.is("errorPosition() of " + text.substring(0, i + 1), x.errorPosition(), due[i]);
        }
        x.append('/');
        check.is("errorPosition() of wG/1,12/", x.errorPosition(), 7);
    }

    private void aNumber() {
        check.of("Promise 6: about", "Returns a number.");
        abouts();
        check.of("Promise 6: about", "Returns that number.");
        abouts();
    }

    private void abouts() {
        FloorPanels x = Check.house("wwhGhhjxw/1,4");
        x.putSign(0);
        x.putCar(1);
        int[] due = {9, 3, 7, 16, 1, 3, 2, 2, -2};
        for (int what = 0; what <= 8; what++) {
            check.is("about(" + what + ")", x.about(what), due[what]);
        }
    }

    private void aNumberOfALevel() {
        check.of("Promise 7: level", "Returns a number of a level.");
        levels();
        check.of("Promise 7: level", "Returns that number.");
        levels();
    }

    private void levels() {
        FloorPanels x = Check.house("wGhhx");
        x.putSign(2);
        int[][] due = {{0, -4, -1, 0, 1}, {0, 0, -1, 0, 1}, {1, 1, 1, 1, 2}, {1, 1, -1, 0, 2},
            {3, -1, -1, 1, 0}};
        for (int l = 0; l <= 4; l++) {
            for (int what = 0; what <= 4; what++) {
                check.is("level(" + l + ", " + what + ")", x.level(l, what), due[l][what]);
            }
        }
    }

    private void aNumberOfAButton() {
        check.of("Promise 8: button", "Returns a number of a button.");
        buttons();
        check.of("Promise 8: button", "Returns that number.");
        buttons();
    }

    private void buttons() {
        FloorPanels x = Check.house("wGx");
        x.putButton(1, 0);
        x.serve(2, 0, false);
        int[][] due = {{-1, 0, 1}, {-4, 1, 1}, {-1, 0, 0}};
        for (int c = 0; c <= 2; c++) {
            for (int what = 0; what <= 2; what++) {
                check.is("button(" + c + ", 0, " + what + ")", x.button(c, 0, what), due[c][what]);
            }
        }
        check.is("button(0, 2, 1) of a wall", x.button(0, 2, 1), 1);
    }

    private void whetherAStoreyIsSkipped() {
        for (String sentence : new String[] {"Tells whether a storey is skipped.", "Returns whether it is."}) {
            check.of("Promise 9: isSkipped", sentence);
            FloorPanels x = Check.house("Gw/2,13");
            check.is("isSkipped(1)", x.isSkipped(1), false);
            check.is("isSkipped(2)", x.isSkipped(2), true);
            check.is("isSkipped(13)", x.isSkipped(13), true);
            x.skip(13, false);
            x.skip(14, true);
            check.is("isSkipped(13) then", x.isSkipped(13), false);
            check.is("isSkipped(14) then", x.isSkipped(14), true);
        }
    }

    private void aLevelWithAName() {
        check.of("Promise 10: named", "Returns a level with a name.");
        FloorPanels x = Check.house("whGhhjw");
        int[] names = {-4, 1, 1, 1, 2, 4};
        int[] which = {0, 0, 1, 2, 0, 0};
        int[] due = {0, 1, 3, 4, 5, 6};
        for (int i = 0; i < names.length; i++) {
            check.is("named(" + names[i] + ", " + which[i] + ")", x.named(names[i], which[i]), due[i]);
        }
    }

    // ---- Promises 16 to 20

    private void whetherACarServesALevel() {
        check.of("Promise 16: serve", "Changes whether a car serves a level.");
        FloorPanels x = Check.house("wGw");
        check.is("serve(1, 2, false)", x.serve(1, 2, false), 2);
        check.same("what car 1 serves", Check.served(x, 1), "1 1 0");
        check.same("what car 0 serves", Check.served(x, 0), "1 1 1");
        check.same("what car 2 serves", Check.served(x, 2), "1 1 1");
        check.is("serve(1, 2, true)", x.serve(1, 2, true), 3);
        check.same("what car 1 serves then", Check.served(x, 1), "1 1 1");
    }

    private void putsTheSignRight() {
        check.of("Promise 17: putSign", "Puts the sign of a level right.");
        FloorPanels x = Check.house("wGw");
        x.putSign(2);
        check.same("the signs", Check.signs(x), "-1 -1 4");
        check.is("level(2, 3)", x.level(2, 3), 1);
        x.skip(1, true);
        check.is("level(2, 3) when 1 is skipped", x.level(2, 3), 0);
        x.putSign(2);
        check.same("the signs then", Check.signs(x), "-1 -1 8");
        x.kind(2, 3);
        x.putSign(2);
        check.same("the signs when it is walled up", Check.signs(x), "-1 -1 -1");
        check.is("level(2, 3) then", x.level(2, 3), 1);
    }

    private void putsAButtonRight() {
        check.of("Promise 18: putButton", "Puts a button right.");
        FloorPanels x = Check.house("wGw");
        x.putButton(1, 0);
        check.same("the buttons of car 0", Check.buttons(x, 0), "-1 -1 -1");
        check.same("the buttons of car 1", Check.buttons(x, 1), "-4 -1 -1");
        check.same("the buttons of car 2", Check.buttons(x, 2), "-1 -1 -1");
        check.same("the signs", Check.signs(x), "-1 -1 -1");
        x.kind(0, 1);
        x.putButton(1, 0);
        check.same("the buttons of car 1 behind kind(0, 1)", Check.buttons(x, 1), "1 -1 -1");
    }

    private void putsAllButtonsRight() {
        check.of("Promise 19: putCar", "Puts all buttons of a car right that are wrong.");
        FloorPanels x = Check.house("wGwx");
        x.putCar(2);
        check.same("the buttons of car 2", Check.buttons(x, 2), "-4 0 4 -1");
        check.same("the buttons of car 0", Check.buttons(x, 0), "-1 -1 -1 -1");
        check.same("the buttons of car 1", Check.buttons(x, 1), "-1 -1 -1 -1");
        check.same("the signs", Check.signs(x), "-1 -1 -1 -1");
        x.ground(0);
        x.putCar(2);
        check.same("the buttons of car 2 behind ground(0)", Check.buttons(x, 2), "0 4 8 -1");
    }

    private void exchangesWhatTwoButtonsSay() {
        check.of("Promise 20: exchange", "Exchanges what two buttons of a car say.");
        FloorPanels x = Check.right("wGw");
        x.exchange(1, 0, 2);
        check.same("the buttons of car 1", Check.buttons(x, 1), "4 0 -4");
        check.same("the buttons of car 0", Check.buttons(x, 0), "-4 0 4");
        check.same("the signs", Check.signs(x), "-4 0 4");
        check.same("what car 1 serves", Check.served(x, 1), "1 1 1");
        x.exchange(1, 2, 1);
        check.same("the buttons of car 1 then", Check.buttons(x, 1), "4 -4 0");
    }

    // ---- Promises 22 to 30

    private void whereARideGoes() {
        check.of("Promise 22: goes", "Tells where a ride goes.");
        FloorPanels x = Check.right("wGhw");
        check.is("goes(0, 1, 4)", x.goes(0, 1, 4), 3);
        check.is("goes(0, 3, -4)", x.goes(0, 3, -4), 0);
        x.exchange(0, 0, 3);
        check.is("goes(0, 1, 4) behind exchange(0, 0, 3)", x.goes(0, 1, 4), 0);
        check.is("goes(1, 1, 4) of another car", x.goes(1, 1, 4), 3);
    }

    private void buttonsThatLeadAstray() {
        check.of("Promise 23: astray", "Counts buttons that lead astray.");
        FloorPanels x = Check.right("wGhw");
        check.is("astray(0) when all are right", x.astray(0), 0);
        x.skip(1, true);
        check.is("astray(0) when all still say other names", x.astray(0), 0);
        x.kind(2, 0);
        x.putButton(0, 2);
        x.skip(1, false);
        x.putButton(0, 3);
        // The buttons say -4, 0, 8, 8: from below, 8 leads to level 2.
        check.is("astray(0) when two say 8", x.astray(0), 2);
        check.is("astray(1)", x.astray(1), 0);
    }

    private void howManyRides() {
        check.of("Promise 24: rides", "Tells how many rides one needs.");
        FloorPanels x = Check.right("wGww");
        check.is("rides(0, 3)", x.rides(0, 3), 1);
        for (int c = 0; c <= 2; c++) {
            x.serve(c, 0, c == 0);
            x.serve(c, 3, c == 1);
        }
        check.is("rides(0, 3) with a change of cars", x.rides(0, 3), 2);
        check.is("rides(3, 0)", x.rides(3, 0), 2);
        check.is("rides(1, 3)", x.rides(1, 3), 1);
    }

    private void theStoreyThatShouldBeSkipped() {
        check.of("Promise 26: bestSkip", "Finds the storey that should be skipped, or not be skipped any"
                + " more.");
        FloorPanels x = Check.right("Gwwww");
        x.skip(3, true);
        check.is("bestSkip() of 3 that is skipped", x.bestSkip(), 3);
        Check.putAllRight(x);
        check.is("bestSkip() of none", x.bestSkip(), -1);
        x.skip(3, false);
        check.is("bestSkip() of 3 that is not skipped any more", x.bestSkip(), 3);
    }

    private void theWorstCar() {
        check.of("Promise 28: worst", "Finds the car that is worst.");
        for (int worst = 0; worst <= 2; worst++) {
            FloorPanels x = Check.right("wGw");
            x.add(3, 0);
            for (int c = 0; c <= 2; c++) {
                if (c != worst) {
                    x.putButton(c, 3);
                }
            }
            check.is("worst()", x.worst(), worst);
        }
    }

    private void simulatesTurns() {
        check.of("Promise 30: simulate", "Simulates m turns on a copy of the state.");
        Check.Maker maker = () -> Check.right("wGw");
        // add(0, 0), remove(0), kind(0, 3), ground(0), ground(1), skip(1, true), putSign(0)
        int[] turns = {0, 2, 3 + 256 * 3, 4, 4 + 16, 5, 8};
        int[] due = {4004, 2, 4003, 12003, 3, 4003, 3};
        for (int i = 0; i < turns.length; i++) {
            long seed = seedOf(turns[i]);
            check.onlyAnswers("simulate of a turn " + turns[i], due[i], maker, x -> x.simulate(seed, 1));
        }
    }

    /** The seed whose first turn is r. */
    private static long seedOf(int r) {
        return (((long) r << 33) - 1442695040888963407L) * inverse(6364136223846793005L);
    }

    /** What times the odd number is 1, with overflow; each step makes twice as many bits right. */
    private static long inverse(long odd) {
        long x = odd;
        for (int i = 0; i < 6; i++) {
            x *= 2 - odd * x;
        }
        return x;
    }
}
