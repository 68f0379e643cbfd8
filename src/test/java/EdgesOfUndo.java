/** Undo and exceptions at their edges: the section "Terms", and the promise 21. */
final class EdgesOfUndo {
    private static final String TERMS = "Terms";
    private static final String UNDO = "Promise 21: undo";
    private static final String FULL = "Gwwwwwwwwwwwwwww";

    private final Check check;

    EdgesOfUndo(Check check) {
        this.check = check;
    }

    void run() {
        notTheTextNorTheSlots();
        eachCallIsAnAction();
        undoIsNone();
        fourteenStates();
        loadAndRestoreAreNone();
        questionsAreNone();
        whatDoesNotExist();
        whichExceptionIsThrown();
        nothingIsChanged();
        takesBackTheLastAction();
        howManyAreStillRemembered();
        noneIsRemembered();
    }

    private static FloorPanels counted(int actions) {
        FloorPanels x = new FloorPanels();
        for (int i = 0; i < actions; i++) {
            step(x, i);
        }
        return x;
    }

    /** Each of 60 steps on end makes another state. */
    private static void step(FloorPanels x, int i) {
        x.skip(1 + i % 30, i / 30 % 2 == 0);
    }

    private static String skipped(FloorPanels x) {
        StringBuilder s = new StringBuilder();
        for (int storey = 1; storey <= 30; storey++) {
            s.append(x.isSkipped(storey) ? '1' : '0');
        }
        return s.toString();
    }

    // ---- Terms

    private void notTheTextNorTheSlots() {
        check.of(TERMS, "The methods in the section \"actions\" change the state, which consists of"
                + " everything but the text and the save slots.");
        FloorPanels x = Check.house("Gw");
        x.putSign(0);
        x.append('w');
        x.save(0);
        x.putSign(1);
        x.append('h');
        x.save(1);
        x.clearText();
        x.append('G');
        check.is("undo()", x.undo(), 1);
        check.is("undo() again", x.undo(), 0);
        check.is("the text behind undo()", x.errorPosition(), -1);
        check.is("its length", x.clearText(), 1);
        check.same("the signs behind undo()", Check.signs(x), "-1 -1");
        check.is("restore(1) behind undo()", x.restore(1), 2);
        check.same("the signs of slot 1", Check.signs(x), "0 4");
        check.is("restore(0)", x.restore(0), 2);
        check.same("the signs of slot 0", Check.signs(x), "0 -1");
        for (int action = 0; action < 20; action++) {
            FloorPanels y = Check.busy("whGjxw");
            act(y, action);
            check.is("the text behind action " + action, y.errorPosition(), -1);
            check.is("load() behind action " + action, y.load(), 4);
            check.is("the skipped storeys then", y.about(6), 2);
        }
    }

    private void eachCallIsAnAction() {
        check.of(TERMS, "Each call of one of them that does not throw an exception is an action, also"
                + " if nothing becomes different (undo is none).");
        for (int action = 0; action < 20; action++) {
            FloorPanels x = startOfActions();
            act(x, action);
            boolean same = Check.seen(x).equals(Check.seen(startOfActions()));
            check.is("action " + action + " makes nothing different", same, action >= 10);
            check.is("undo() of action " + action, x.undo(), 3);
            FloorPanels y = startOfActions();
            act(y, action);
            for (int left = 3; left >= 0; left--) {
                check.is("undo() behind action " + action, y.undo(), left);
            }
            check.raises("undo() of no more", Check.STATE, () -> y.undo());
        }
    }

    /** Three states are remembered. */
    private static FloorPanels startOfActions() {
        FloorPanels x = Check.house("whGjxw/5");
        x.putCar(0);
        x.putSign(0);
        x.serve(2, 1, false);
        return x;
    }

    /** Ten kinds of actions, and again (but for add and remove) with nothing different. */
    private static void act(FloorPanels x, int action) {
        switch (action) {
            case 0: x.add(1, 0); break;
            case 1: x.remove(0); break;
            case 2: x.kind(5, 3); break;
            case 3: x.ground(5); break;
            case 4: x.skip(1, true); break;
            case 5: x.serve(1, 2, false); break;
            case 6: x.putSign(5); break;
            case 7: x.putButton(1, 5); break;
            case 8: x.putCar(2); break;
            case 9: x.exchange(0, 0, 5); break;
            case 10: x.kind(2, 0); break;
            case 11: x.kind(4, 3); break;
            case 12: x.ground(2); break;
            case 13: x.skip(5, true); break;
            case 14: x.serve(2, 1, false); break;
            case 15: x.putSign(0); break;
            case 16: x.putButton(0, 5); break;
            case 17: x.putCar(0); break;
            case 18: x.exchange(0, 3, 3); break;
            default: x.skip(30, false); break;
        }
    }

    private void undoIsNone() {
        check.of(TERMS, "(undo is none)");
        FloorPanels x = counted(3);
        check.is("undo() of 3", x.undo(), 2);
        check.is("undo() again takes back more", x.undo(), 1);
        check.is("the skipped storeys", x.about(6), 1);
        check.is("undo() of the first", x.undo(), 0);
        check.is("the skipped storeys at first", x.about(6), 0);
        check.raises("undo() of no more", Check.STATE, () -> x.undo());
    }

    /** The ring of states goes round several times; each state that comes back is the one due. */
    private void fourteenStates() {
        check.of(TERMS, "Before each action, the state is remembered. At most 14 states are remembered;"
                + " when one more is remembered, the oldest one is forgotten.");
        for (int actions = 0; actions <= 60; actions++) {
            FloorPanels x = counted(actions);
            int undone = 0;
            for (int left = Math.min(actions, 14) - 1; left >= 0; left--) {
                undone++;
                check.is("undo() " + undone + " of " + actions, x.undo(), left);
                check.is("the skipped storeys behind it", x.about(6),
                        actions - undone <= 30 ? actions - undone : 60 - actions + undone);
            }
            check.raises("undo() of no more of " + actions, Check.STATE, () -> x.undo());
            check.same("the state at the end of " + actions, skipped(x),
                    skipped(counted(Math.max(0, actions - 14))));
        }
        for (int back = 1; back <= 14; back++) {
            for (int again = 1; again <= 16; again++) {
                FloorPanels x = counted(20);
                for (int i = 0; i < back; i++) {
                    check.is("undo() " + (i + 1) + " of 20", x.undo(), 13 - i);
                }
                for (int i = 0; i < again; i++) {
                    step(x, 20 - back + i);
                }
                check.same("the state behind " + back + " undos and " + again + " actions", skipped(x),
                        skipped(counted(20 - back + again)));
                int remembered = Math.min(14, 14 - back + again);
                for (int left = remembered - 1; left >= 0; left--) {
                    check.is("undo() behind " + back + " undos and " + again + " actions", x.undo(), left);
                }
                check.raises("undo() of no more", Check.STATE, () -> x.undo());
                check.same("the state at the end", skipped(x),
                        skipped(counted(20 - back + again - remembered)));
            }
        }
    }

    private void loadAndRestoreAreNone() {
        check.of(TERMS, "load and restore are not actions.");
        for (int actions : new int[] {0, 1, 13, 14, 15}) {
            FloorPanels x = counted(actions);
            x.append('G');
            x.load();
            check.raises("undo() behind load()", Check.STATE, () -> x.undo());
            x.putSign(0);
            check.is("undo() of an action behind load()", x.undo(), 0);
            check.raises("undo() of load()", Check.STATE, () -> x.undo());
            FloorPanels y = counted(actions);
            y.save(1);
            y.restore(1);
            check.raises("undo() behind restore()", Check.STATE, () -> y.undo());
            y.putSign(0);
            check.is("undo() of an action behind restore()", y.undo(), 0);
            check.raises("undo() of restore()", Check.STATE, () -> y.undo());
        }
    }

    private void questionsAreNone() {
        check.of(TERMS, "Ahead of the calls `goes`, `astray`, `rides`, `ifSkipped`, `bestSkip`,"
                + " `ifAdded`, `worst` the interface says: ---- rides, and what would be; these and all"
                + " following methods up to the save slots change nothing.");
        Check.Maker maker = () -> Check.busy("whGjxw/5");
        Check.Ask[] questions = {x -> x.goes(0, 0, 4), x -> x.goes(2, 5, 0), x -> x.astray(0),
            x -> x.astray(2), x -> x.rides(0, 5), x -> x.rides(4, 4), x -> x.ifSkipped(1),
            x -> x.ifSkipped(5), x -> x.ifSkipped(30), x -> x.bestSkip(), x -> x.ifAdded(0, 0),
            x -> x.ifAdded(6, 3), x -> x.worst(), x -> x.runScript(1, 1000), x -> x.runScript(1, 2000),
            x -> x.runScript(3, 7000_7100_7200L), x -> x.runScript(3, 3001_4011_5020L),
            x -> x.runScript(2, 6100_9000L), x -> x.simulate(1, 1), x -> x.simulate(-5, 80)};
        for (int i = 0; i < questions.length; i++) {
            check.same("all behind question " + i, Check.all(maker, questions[i]),
                    Check.all(maker, x -> 0));
        }
        Check.Maker full = () -> counted(20);
        for (int i = 0; i < questions.length; i++) {
            check.same("all behind question " + i + " of one level", Check.all(full, questions[i]),
                    Check.all(full, x -> 0));
        }
    }

    private void whatDoesNotExist() {
        check.of(TERMS, "IndexOutOfBoundsException means that a level or a car does not exist, or that a"
                + " save slot is not 0 or 1. IllegalArgumentException means that another argument is out"
                + " of its range.");
        FloorPanels x = Check.house("wGw");
        check.raises("level(3, 0)", Check.INDEX, () -> x.level(3, 0));
        check.raises("putCar(3)", Check.INDEX, () -> x.putCar(3));
        check.raises("save(2)", Check.INDEX, () -> x.save(2));
        check.raises("save(-1)", Check.INDEX, () -> x.save(-1));
        check.raises("about(9)", Check.ARGUMENT, () -> x.about(9));
        check.raises("skip(31, true)", Check.ARGUMENT, () -> x.skip(31, true));
        check.raises("add(0, 4)", Check.ARGUMENT, () -> x.add(0, 4));
        check.is("save(0)", x.save(0), 3);
        check.is("save(1)", x.save(1), 3);
    }

    private void whichExceptionIsThrown() {
        check.of(TERMS, "If several exceptions apply to a call, the one that its description names first"
                + " is thrown.");
        Check.Maker sixty = () -> {
            FloorPanels x = Check.busy("wGw");
            Check.write(x, "wGw/1,2,3,4,5,6,7,8,9,10,11,12,13,14,15,16,17,18,19,20,21,22");
            return x;
        };
        check.refuses("append(256) to 60", Check.ARGUMENT, sixty, x -> x.append(256));
        check.refuses("append(-1) to 60", Check.ARGUMENT, sixty, x -> x.append(-1));
        Check.Maker house = () -> Check.busy("whGw");
        check.refuses("level(4, 5)", Check.INDEX, house, x -> x.level(4, 5));
        check.refuses("level(-1, -1)", Check.INDEX, house, x -> x.level(-1, -1));
        check.refuses("button(3, 0, 3)", Check.INDEX, house, x -> x.button(3, 0, 3));
        check.refuses("button(0, 4, 3)", Check.INDEX, house, x -> x.button(0, 4, 3));
        check.refuses("button(-1, -1, -1)", Check.INDEX, house, x -> x.button(-1, -1, -1));
        check.refuses("add(5, 4)", Check.INDEX, house, x -> x.add(5, 4));
        check.refuses("kind(4, 4)", Check.INDEX, house, x -> x.kind(4, 4));
        check.refuses("kind(2, 4) of the ground", Check.ARGUMENT, house, x -> x.kind(2, 4));
        check.refuses("kind(2, -1) of the ground", Check.ARGUMENT, house, x -> x.kind(2, -1));
        check.refuses("ifAdded(5, 4)", Check.INDEX, house, x -> x.ifAdded(5, 4));
        Check.Maker full = () -> Check.busy(FULL);
        check.refuses("add(17, 4) to 16", Check.INDEX, full, x -> x.add(17, 4));
        check.refuses("add(17, 0) to 16", Check.INDEX, full, x -> x.add(17, 0));
        check.refuses("add(0, 4) to 16", Check.ARGUMENT, full, x -> x.add(0, 4));
        check.refuses("add(16, -1) to 16", Check.ARGUMENT, full, x -> x.add(16, -1));
        check.refuses("ifAdded(17, 4) to 16", Check.INDEX, full, x -> x.ifAdded(17, 4));
        check.refuses("ifAdded(-1, 0) to 16", Check.INDEX, full, x -> x.ifAdded(-1, 0));
        check.refuses("ifAdded(0, 4) to 16", Check.ARGUMENT, full, x -> x.ifAdded(0, 4));
        check.refuses("restore(2) of nothing saved", Check.INDEX, FloorPanels::new, x -> x.restore(2));
        check.refuses("restore(-1) of nothing saved", Check.INDEX, FloorPanels::new, x -> x.restore(-1));
    }

    /** When 14 states are remembered, one more would push the oldest one out. */
    private void nothingIsChanged() {
        check.of(TERMS, "A call that throws an exception changes nothing.");
        Check.Maker fourteen = () -> {
            FloorPanels x = Check.house("xGw");
            x.save(0);
            for (int i = 0; i < 14; i++) {
                step(x, i);
            }
            x.append('/');
            return x;
        };
        Check.Ask[] calls = {x -> x.append(256), x -> x.load(), x -> x.about(9), x -> x.level(3, 0),
            x -> x.button(3, 0, 0), x -> x.isSkipped(0) ? 1 : 0, x -> x.named(0, -1), x -> x.add(4, 0),
            x -> x.add(0, 4), x -> x.remove(3), x -> x.remove(1), x -> x.kind(3, 0), x -> x.kind(0, 4),
            x -> x.kind(1, 1), x -> x.ground(3), x -> x.ground(0), x -> x.skip(0, true),
            x -> x.skip(31, false), x -> x.serve(3, 0, false), x -> x.serve(0, 3, false),
            x -> x.putSign(3), x -> x.putButton(3, 0), x -> x.putButton(0, 3), x -> x.putCar(3),
            x -> x.exchange(3, 0, 2), x -> x.exchange(0, 0, 3), x -> x.exchange(0, 3, 2),
            x -> x.goes(3, 0, 0), x -> x.goes(0, 3, 0), x -> x.astray(3), x -> x.rides(3, 0),
            x -> x.rides(0, 3), x -> x.ifSkipped(0), x -> x.ifAdded(4, 0), x -> x.ifAdded(0, 4),
            x -> x.runScript(0, 0), x -> x.runScript(1, -1), x -> x.runScript(1, 10000),
            x -> x.simulate(1, 0), x -> x.simulate(1, 81), x -> x.save(2), x -> x.restore(2),
            x -> x.restore(1)};
        String due = Check.all(fourteen, x -> 0);
        for (int i = 0; i < calls.length; i++) {
            String answer = Check.answer(fourteen.make(), calls[i]);
            check.is("refused call " + i + " throws", answer.startsWith("java.lang.I"), true);
            check.same("all behind refused call " + i, Check.all(fourteen, calls[i]), due);
        }
        String dueOfNone = Check.all(FloorPanels::new, x -> 0);
        check.same("all behind undo() of none", Check.all(FloorPanels::new, x -> x.undo()), dueOfNone);
        Check.Maker full = () -> Check.busy(FULL);
        String dueOfFull = Check.all(full, x -> 0);
        check.same("all behind add() to 16", Check.all(full, x -> x.add(3, 0)), dueOfFull);
        check.same("all behind ifAdded() to 16", Check.all(full, x -> x.ifAdded(3, 0)), dueOfFull);
    }

    // ---- Promise 21

    private void takesBackTheLastAction() {
        check.of(UNDO, "`int undo() throws IllegalStateException`: Takes back the last action that is"
                + " remembered.");
        for (int action = 0; action < 20; action++) {
            FloorPanels x = startOfActions();
            act(x, action);
            x.undo();
            check.same("the state behind undo() of action " + action, Check.seen(x),
                    Check.seen(startOfActions()));
        }
        FloorPanels full = Check.right("wwwwwwwGwwwwwwww");
        full.serve(0, 15, false);
        full.remove(15);
        full.remove(0);
        full.undo();
        full.undo();
        check.is("the levels behind two undos", full.about(0), 16);
        check.is("the sign of the highest", full.level(15, 2), 32);
        check.is("the button of the highest", full.button(0, 15, 0), 32);
        check.is("the highest is not served", full.button(0, 15, 2), 0);
        check.is("the sign of the lowest", full.level(0, 2), -28);
        check.is("the ground", full.about(1), 7);
        eachPartOfAFullHouse();
        FloorPanels one = new FloorPanels();
        one.add(0, 0);
        one.ground(0);
        one.remove(1);
        check.is("undo() of remove(1)", one.undo(), 2);
        check.is("the ground then", one.about(1), 0);
        check.is("undo() of ground(0)", one.undo(), 1);
        check.is("the ground before", one.about(1), 1);
        check.is("undo() of add(0, 0)", one.undo(), 0);
        check.same("the state at first", Check.seen(one), Check.seen(new FloorPanels()));
    }

    private void eachPartOfAFullHouse() {
        for (int l = 0; l <= 15; l++) {
            FloorPanels x = Check.house("wwwwwwwGwwwwwwww");
            String before = Check.signs(x);
            x.putSign(l);
            x.undo();
            check.same("the signs behind undo() of putSign(" + l + ")", Check.signs(x), before);
            for (int c = 0; c <= 2; c++) {
                FloorPanels y = Check.house("wwwwwwwGwwwwwwww");
                check.is("serve(" + c + ", " + l + ", false)", y.serve(c, l, false), 15);
                check.is("putButton(" + c + ", " + l + ")", y.putButton(c, l), -1);
                check.is("undo() of putButton()", y.undo(), 1);
                check.same("the buttons behind it", Check.buttons(y, c), before);
                check.is("undo() of serve()", y.undo(), 0);
                check.is("serve(" + c + ", 7, true) behind it", y.serve(c, 7, true), 16);
            }
        }
    }

    private void howManyAreStillRemembered() {
        check.of(UNDO, "Returns how many states are still remembered.");
        check.is("undo() of one", counted(1).undo(), 0);
        check.is("undo() of two", counted(2).undo(), 1);
        check.is("undo() of 13", counted(13).undo(), 12);
        check.is("undo() of 14", counted(14).undo(), 13);
        check.is("undo() of 15", counted(15).undo(), 13);
        check.is("undo() of 16", counted(16).undo(), 13);
        check.is("undo() of 400", counted(400).undo(), 13);
        FloorPanels x = counted(1);
        x.undo();
        step(x, 0);
        check.is("undo() of the same action", x.undo(), 0);
    }

    private void noneIsRemembered() {
        check.of(UNDO, "Throws `IllegalStateException` if none is remembered");
        check.refuses("undo() of a new object", Check.STATE, FloorPanels::new, x -> x.undo());
        check.refuses("undo() behind load()", Check.STATE, () -> Check.house("wGw/3"), x -> x.undo());
        check.refuses("undo() behind restore()", Check.STATE, () -> {
            FloorPanels x = Check.busy("wGw");
            x.restore(0);
            return x;
        }, x -> x.undo());
        for (int actions : new int[] {1, 14, 15, 40}) {
            check.refuses("undo() of one more of " + actions, Check.STATE, () -> {
                FloorPanels x = counted(actions);
                for (int i = 0; i < Math.min(actions, 14); i++) {
                    x.undo();
                }
                return x;
            }, x -> x.undo());
        }
        FloorPanels x = counted(2);
        x.undo();
        x.undo();
        check.raises("undo() of none", Check.STATE, () -> x.undo());
        check.raises("undo() of none again", Check.STATE, () -> x.undo());
        step(x, 5);
        check.is("undo() of an action behind it", x.undo(), 0);
    }
}
