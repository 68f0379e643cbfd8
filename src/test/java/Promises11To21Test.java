/** The actions, and undo. */
public final class Promises11To21Test {
    private static final Class<IllegalArgumentException> ARGUMENT = IllegalArgumentException.class;
    private static final Class<IllegalStateException> STATE = IllegalStateException.class;
    private static final Class<IndexOutOfBoundsException> INDEX = IndexOutOfBoundsException.class;

    private static final Check check = new Check();

    public static void main(String[] args) {
        add();
        addMovesWhatBelongsToLevels();
        addRefuses();
        remove();
        removeNumbersAnew();
        removeLeavesNothing();
        removeRefuses();
        kind();
        kindRefuses();
        ground();
        skip();
        serve();
        putSign();
        putButton();
        putCar();
        exchange();
        undoTakesBackEachAction();
        undoRemembersFourteen();
        undoKeepsTextAndSlots();
        refusedCallsAreNotRemembered();
        check.end();
    }

    private static void add() {
        FloorPanels x = new FloorPanels();
        check.is("add(1, 0)", x.add(1, 0), 2);
        check.is("the ground stays below", x.about(1), 0);
        check.is("add(0, 1)", x.add(0, 1), 3);
        check.is("the ground goes up", x.about(1), 1);
        check.is("add(1, 2)", x.add(1, 2), 4);
        check.is("the ground goes up again", x.about(1), 2);
        check.is("add(3, 3)", x.add(3, 3), 5);
        check.is("the ground stays", x.about(1), 2);
        check.same("the names then", Check.names(x), "1 2 0 -1 4");
        for (int levels = 6; levels <= 16; levels++) {
            check.is("add at the end", x.add(levels - 1, 0), levels);
        }
        check.is("the greatest storey then", x.about(7), 12);
    }

    private static void addMovesWhatBelongsToLevels() {
        FloorPanels x = Check.house("wGw");
        Check.putAllRight(x);
        x.serve(1, 0, false);
        x.serve(2, 2, false);
        x.add(1, 0);
        check.same("the signs", Check.signs(x), "-4 -1 0 4");
        check.same("the names", Check.names(x), "-8 -4 0 4");
        for (int c = 0; c < 3; c++) {
            check.same("the buttons of car " + c, Check.buttons(x, c), "-4 -1 0 4");
        }
        int[][] served = {{1, 1, 1, 1}, {0, 1, 1, 1}, {1, 1, 1, 0}};
        for (int c = 0; c < 3; c++) {
            for (int l = 0; l < 4; l++) {
                check.is("car " + c + " serves " + l, x.button(c, l, 2), served[c][l]);
            }
        }
        x.remove(3);
        x.add(3, 0);
        check.is("a level that comes again is served", x.button(2, 3, 2), 1);
        check.is("its sign", x.level(3, 2), -1);
        check.is("its button", x.button(0, 3, 0), -1);
    }

    private static void addRefuses() {
        FloorPanels x = Check.house("Gww");
        check.raises("add(-1, 0)", INDEX, () -> x.add(-1, 0));
        check.raises("add(4, 0)", INDEX, () -> x.add(4, 0));
        check.raises("add(4, 4)", INDEX, () -> x.add(4, 4));
        check.raises("add(3, 4)", ARGUMENT, () -> x.add(3, 4));
        check.raises("add(0, -1)", ARGUMENT, () -> x.add(0, -1));
        FloorPanels full = Check.house("Gwwwwwwwwwwwwwww");
        check.raises("add(16, 0) to 16", STATE, () -> full.add(16, 0));
        check.raises("add(0, 3) to 16", STATE, () -> full.add(0, 3));
        check.raises("add(17, 0) to 16", INDEX, () -> full.add(17, 0));
        check.raises("add(-1, 4) to 16", INDEX, () -> full.add(-1, 4));
        check.raises("add(3, 4) to 16", ARGUMENT, () -> full.add(3, 4));
        check.is("remove(15)", full.remove(15), 15);
        check.is("add(15, 1) to 15", full.add(15, 1), 16);
    }

    private static void remove() {
        FloorPanels x = Check.house("whGxw");
        Check.putAllRight(x);
        x.serve(0, 0, false);
        x.serve(1, 4, false);
        check.is("remove(3)", x.remove(3), 4);
        check.is("the ground stays", x.about(1), 2);
        check.same("the signs", Check.signs(x), "-4 1 0 4");
        check.is("the service goes down with its level", x.button(1, 3, 2), 0);
        check.is("remove(0)", x.remove(0), 3);
        check.is("the ground goes down", x.about(1), 1);
        check.same("the signs then", Check.signs(x), "1 0 4");
        check.same("the names then", Check.names(x), "1 0 4");
        for (int c = 0; c < 3; c++) {
            check.same("the buttons of car " + c, Check.buttons(x, c), "1 0 4");
        }
        check.is("the service goes with the level", x.button(0, 0, 2), 1);
        check.is("the service is down again", x.button(1, 2, 2), 0);
        check.is("remove(2)", x.remove(2), 2);
        check.is("remove(0) again", x.remove(0), 1);
        check.is("the ground alone", x.about(1), 0);
    }

    private static void removeNumbersAnew() {
        FloorPanels x = Check.house("wwGwhww/2");
        Check.putAllRight(x);
        x.remove(3);
        check.same("the names above", Check.names(x), "-8 -4 0 1 4 12");
        check.same("the signs above", Check.signs(x), "-8 -4 0 5 12 16");
        x.remove(1);
        check.same("the names below", Check.names(x), "-4 0 1 4 12");
        check.same("the signs below", Check.signs(x), "-8 0 5 12 16");
        check.is("the wrong signs then", x.about(2), 4);
        check.is("the wrong buttons then", x.about(3), 12);
    }

    /** What the highest levels had is not counted when they are gone. */
    private static void removeLeavesNothing() {
        FloorPanels x = Check.house("Ghhhwxw");
        x.putCar(0);
        x.serve(1, 0, false);
        check.is("remove(6)", x.remove(6), 6);
        check.is("the greatest storey", x.about(7), 1);
        check.is("the wrong signs", x.about(2), 5);
        check.is("the wrong buttons", x.about(3), 10);
        check.is("goes(0, 0, 8)", x.goes(0, 0, 8), -1);
        check.is("remove(5)", x.remove(5), 5);
        check.is("the levels without a name", x.about(4), 0);
        check.is("astray(0)", x.astray(0), 7);
        check.is("astray(2)", x.astray(2), 20);
        check.is("serve(0, 0, true)", x.serve(0, 0, true), 5);
        check.is("remove(4)", x.remove(4), 4);
        check.is("remove(3)", x.remove(3), 3);
        check.is("the names in common", x.about(5), 2);
        check.is("named(1, 2)", x.named(1, 2), -1);
        check.is("level(1, 4)", x.level(1, 4), 2);
        check.is("goes(0, 2, 1)", x.goes(0, 2, 1), 1);
        check.is("rides(0, 2)", x.rides(0, 2), 2);
        check.raises("level(3, 0)", INDEX, () -> x.level(3, 0));
        FloorPanels low = Check.house("wwG");
        low.ground(0);
        low.remove(2);
        low.ground(1);
        check.is("the least storey", low.about(8), -1);
    }

    private static void removeRefuses() {
        FloorPanels x = Check.house("wGw");
        check.raises("remove(-1)", INDEX, () -> x.remove(-1));
        check.raises("remove(3)", INDEX, () -> x.remove(3));
        check.raises("remove(1)", STATE, () -> x.remove(1));
        FloorPanels alone = new FloorPanels();
        check.raises("remove(0) of the last", STATE, () -> alone.remove(0));
        check.raises("remove(1) of one", INDEX, () -> alone.remove(1));
    }

    private static void kind() {
        FloorPanels x = Check.house("wwGww");
        Check.putAllRight(x);
        check.is("kind(3, 1)", x.kind(3, 1), 0);
        check.is("kind(3, 2)", x.kind(3, 2), 1);
        check.is("kind(3, 3)", x.kind(3, 3), 2);
        check.same("the names then", Check.names(x), "-8 -4 0 -1 4");
        check.is("kind(3, 3) again", x.kind(3, 3), 3);
        check.is("kind(1, 2)", x.kind(1, 2), 0);
        check.same("the names below too", Check.names(x), "-4 2 0 -1 4");
        check.same("the signs as before", Check.signs(x), "-8 -4 0 4 8");
        check.is("kind(2, 0) of the ground", x.kind(2, 0), 0);
        check.is("kind(3, 0)", x.kind(3, 0), 3);
        check.same("the names at the end", Check.names(x), "-4 2 0 4 8");
    }

    private static void kindRefuses() {
        FloorPanels x = Check.house("wGw");
        check.raises("kind(-1, 0)", INDEX, () -> x.kind(-1, 0));
        check.raises("kind(3, 0)", INDEX, () -> x.kind(3, 0));
        check.raises("kind(3, 4)", INDEX, () -> x.kind(3, 4));
        check.raises("kind(0, 4)", ARGUMENT, () -> x.kind(0, 4));
        check.raises("kind(0, -1)", ARGUMENT, () -> x.kind(0, -1));
        check.raises("kind(1, 4) of the ground", ARGUMENT, () -> x.kind(1, 4));
        check.raises("kind(1, -1) of the ground", ARGUMENT, () -> x.kind(1, -1));
        for (int kind = 1; kind <= 3; kind++) {
            int other = kind;
            check.raises("kind(1, " + kind + ") of the ground", STATE, () -> x.kind(1, other));
        }
    }

    private static void ground() {
        FloorPanels x = Check.house("whGjxw");
        Check.putAllRight(x);
        check.is("ground(5)", x.ground(5), 2);
        check.is("the ground", x.about(1), 5);
        check.same("the names", Check.names(x), "-8 -3 -4 2 -1 0");
        check.same("the signs as before", Check.signs(x), "-4 1 0 2 -1 4");
        check.is("ground(0)", x.ground(0), 5);
        check.same("the names then", Check.names(x), "0 1 4 6 -1 8");
        check.is("ground(0) again", x.ground(0), 0);
        check.is("the former ground is whole", x.level(5, 0), 0);
        check.is("kind(5, 3) of the former ground", x.kind(5, 3), 0);
        check.raises("ground(-1)", INDEX, () -> x.ground(-1));
        check.raises("ground(6)", INDEX, () -> x.ground(6));
        check.raises("ground(1) of a half one", STATE, () -> x.ground(1));
        check.raises("ground(3) of a joined one", STATE, () -> x.ground(3));
        check.raises("ground(4) of one walled up", STATE, () -> x.ground(4));
    }

    private static void skip() {
        FloorPanels x = Check.house("wGwhw");
        check.is("skip(1, true)", x.skip(1, true), 1);
        check.is("skip(1, true) again", x.skip(1, true), 1);
        check.same("the names", Check.names(x), "-4 0 8 9 12");
        check.is("skip(30, true)", x.skip(30, true), 2);
        check.is("skip(3, true)", x.skip(3, true), 3);
        check.same("the names then", Check.names(x), "-4 0 8 9 16");
        check.is("skip(1, false)", x.skip(1, false), 2);
        check.is("skip(1, false) again", x.skip(1, false), 2);
        check.is("skip(2, false)", x.skip(2, false), 2);
        check.same("the names at the end", Check.names(x), "-4 0 4 5 8");
        check.is("isSkipped(30)", x.isSkipped(30), true);
        check.raises("skip(0, true)", ARGUMENT, () -> x.skip(0, true));
        check.raises("skip(31, true)", ARGUMENT, () -> x.skip(31, true));
        check.raises("skip(31, false)", ARGUMENT, () -> x.skip(31, false));
        check.raises("skip(-1, true)", ARGUMENT, () -> x.skip(-1, true));
        check.raises("skip(33, true)", ARGUMENT, () -> x.skip(33, true));
    }

    private static void serve() {
        FloorPanels x = Check.house("wGxw");
        check.is("serve(0, 0, false)", x.serve(0, 0, false), 3);
        check.is("serve(0, 0, false) again", x.serve(0, 0, false), 3);
        check.is("serve(0, 2, false) of one walled up", x.serve(0, 2, false), 2);
        check.is("serve(1, 0, true)", x.serve(1, 0, true), 4);
        check.is("serve(0, 0, true)", x.serve(0, 0, true), 3);
        check.is("serve(2, 3, false)", x.serve(2, 3, false), 3);
        check.is("of car 2 the last", x.button(2, 3, 2), 0);
        check.is("of car 1 the last", x.button(1, 3, 2), 1);
        check.raises("serve(-1, 0, true)", INDEX, () -> x.serve(-1, 0, true));
        check.raises("serve(3, 0, true)", INDEX, () -> x.serve(3, 0, true));
        check.raises("serve(0, -1, false)", INDEX, () -> x.serve(0, -1, false));
        check.raises("serve(0, 4, false)", INDEX, () -> x.serve(0, 4, false));
        for (int l = 0; l < 4; l++) {
            check.is("serve(1, " + l + ", false)", x.serve(1, l, false), 3 - l);
        }
    }

    private static void putSign() {
        FloorPanels x = Check.house("wGxw");
        check.is("putSign(3)", x.putSign(3), -1);
        check.is("putSign(3) again", x.putSign(3), 4);
        check.is("putSign(2) of one walled up", x.putSign(2), -1);
        check.is("it says nothing still", x.level(2, 2), -1);
        check.is("putSign(0)", x.putSign(0), -1);
        x.skip(1, true);
        check.is("putSign(3) when it is wrong", x.putSign(3), 4);
        check.same("the signs", Check.signs(x), "-4 -1 -1 8");
        x.kind(3, 3);
        check.is("putSign(3) when it is walled up", x.putSign(3), 8);
        check.is("it says nothing then", x.level(3, 2), -1);
        check.is("no button changes", x.button(0, 3, 0), -1);
        check.raises("putSign(-1)", INDEX, () -> x.putSign(-1));
        check.raises("putSign(4)", INDEX, () -> x.putSign(4));
    }

    private static void putButton() {
        FloorPanels x = Check.house("wGxw");
        check.is("putButton(2, 3)", x.putButton(2, 3), -1);
        check.is("putButton(2, 3) again", x.putButton(2, 3), 4);
        check.is("putButton(0, 2) of one walled up", x.putButton(0, 2), -1);
        x.serve(1, 0, false);
        check.is("putButton(1, 0), not served", x.putButton(1, 0), -1);
        check.same("car 0", Check.buttons(x, 0), "-1 -1 -1 -1");
        check.same("car 1", Check.buttons(x, 1), "-4 -1 -1 -1");
        check.same("car 2", Check.buttons(x, 2), "-1 -1 -1 4");
        check.same("no sign changes", Check.signs(x), "-1 -1 -1 -1");
        x.kind(3, 3);
        check.is("putButton(2, 3) when it is walled up", x.putButton(2, 3), 4);
        check.is("it says nothing then", x.button(2, 3, 0), -1);
        check.raises("putButton(-1, 0)", INDEX, () -> x.putButton(-1, 0));
        check.raises("putButton(3, 0)", INDEX, () -> x.putButton(3, 0));
        check.raises("putButton(0, -1)", INDEX, () -> x.putButton(0, -1));
        check.raises("putButton(0, 4)", INDEX, () -> x.putButton(0, 4));
    }

    private static void putCar() {
        FloorPanels x = Check.house("wGxw");
        x.serve(1, 0, false);
        check.is("putCar(1)", x.putCar(1), 3);
        check.is("putCar(1) again", x.putCar(1), 0);
        check.same("car 0", Check.buttons(x, 0), "-1 -1 -1 -1");
        check.same("car 1", Check.buttons(x, 1), "-4 0 -1 4");
        check.same("car 2", Check.buttons(x, 2), "-1 -1 -1 -1");
        check.same("no sign changes", Check.signs(x), "-1 -1 -1 -1");
        x.kind(3, 3);
        x.kind(2, 0);
        check.is("putCar(1) of two that are wrong", x.putCar(1), 2);
        check.same("car 1 then", Check.buttons(x, 1), "-4 0 4 -1");
        check.raises("putCar(-1)", INDEX, () -> x.putCar(-1));
        check.raises("putCar(3)", INDEX, () -> x.putCar(3));
    }

    private static void exchange() {
        FloorPanels x = Check.house("wGhhw");
        for (int c = 0; c < 3; c++) {
            x.putCar(c);
        }
        check.is("exchange(1, 0, 4)", x.exchange(1, 0, 4), 2);
        check.same("car 1", Check.buttons(x, 1), "4 0 1 1 -4");
        check.same("car 0", Check.buttons(x, 0), "-4 0 1 1 4");
        check.is("exchange(1, 4, 0) back", x.exchange(1, 4, 0), 0);
        check.is("exchange(1, 2, 3) of one name", x.exchange(1, 2, 3), 0);
        check.is("exchange(1, 4, 4) of one that is right", x.exchange(1, 4, 4), 0);
        x.skip(1, true);
        check.is("exchange(1, 4, 4) of one that is wrong", x.exchange(1, 4, 4), 1);
        check.is("exchange(1, 2, 4)", x.exchange(1, 2, 4), 2);
        x.kind(0, 3);
        x.skip(1, false);
        check.is("exchange(1, 2, 4), both right", x.exchange(1, 2, 4), 0);
        check.is("exchange(1, 0, 4), both wrong", x.exchange(1, 0, 4), 2);
        x.add(5, 1);
        check.is("exchange(1, 0, 5), one right", x.exchange(1, 0, 5), 1);
        check.is("exchange(1, 5, 4), the other right", x.exchange(1, 5, 4), 1);
        check.same("car 1 at the end", Check.buttons(x, 1), "-1 0 1 1 4 -4");
        check.raises("exchange(-1, 0, 0)", INDEX, () -> x.exchange(-1, 0, 0));
        check.raises("exchange(3, 0, 0)", INDEX, () -> x.exchange(3, 0, 0));
        check.raises("exchange(0, -1, 0)", INDEX, () -> x.exchange(0, -1, 0));
        check.raises("exchange(0, 6, 0)", INDEX, () -> x.exchange(0, 6, 0));
        check.raises("exchange(0, 0, -1)", INDEX, () -> x.exchange(0, 0, -1));
        check.raises("exchange(0, 0, 6)", INDEX, () -> x.exchange(0, 0, 6));
    }

    /** Ten kinds of actions, each followed by an undo, and again with nothing different. */
    private static void undoTakesBackEachAction() {
        for (int action = 0; action < 20; action++) {
            FloorPanels x = Check.house("whGjxw/5");
            x.putCar(0);
            x.putSign(0);
            x.serve(2, 1, false);
            String before = Check.seen(x);
            act(x, action);
            check.is("undo() of action " + action, x.undo(), 3);
            check.same("the state behind undo of action " + action, Check.seen(x), before);
        }
    }

    private static void act(FloorPanels x, int action) {
        switch (action) {
            case 0: x.add(1, 0); break;
            case 1: x.remove(0); break;
            case 2: x.kind(5, 3); break;
            case 3: x.ground(5); break;
            case 4: x.skip(1, true); break;
            case 5: x.serve(1, 2, false); break;
            case 6: x.putSign(5); break;
            case 7: x.putButton(1, 5); break;
            case 8: x.putCar(2); break;
            case 9: x.exchange(0, 0, 5); break;
            case 10: x.kind(2, 0); break;
            case 11: x.kind(4, 3); break;
            case 12: x.ground(2); break;
            case 13: x.skip(5, true); break;
            case 14: x.serve(2, 1, false); break;
            case 15: x.putSign(0); break;
            case 16: x.putButton(0, 5); break;
            case 17: x.putCar(0); break;
            case 18: x.exchange(0, 3, 3); break;
            default: x.add(6, 3); break;
        }
    }

    private static void undoRemembersFourteen() {
        FloorPanels x = new FloorPanels();
        for (int storey = 1; storey <= 20; storey++) {
            x.skip(storey, true);
        }
        for (int left = 13; left >= 0; left--) {
            check.is("undo() with " + left + " left", x.undo(), left);
            check.is("the skipped storeys then", x.about(6), left + 6);
        }
        check.raises("undo() of a fifteenth", STATE, () -> x.undo());
        check.is("skip(30, true) behind it", x.skip(30, true), 7);
        check.is("undo() of it", x.undo(), 0);
        check.is("the skipped storeys at the end", x.about(6), 6);
        FloorPanels y = new FloorPanels();
        for (int storey = 1; storey <= 14; storey++) {
            y.skip(storey, true);
        }
        for (int left = 13; left >= 0; left--) {
            check.is("undo() of 14, with " + left + " left", y.undo(), left);
        }
        check.is("no storey is skipped any more", y.about(6), 0);
        check.raises("undo() of none", STATE, () -> y.undo());
    }

    private static void undoKeepsTextAndSlots() {
        FloorPanels x = Check.house("Gw");
        x.putSign(0);
        x.append('w');
        x.save(0);
        check.is("undo()", x.undo(), 0);
        check.is("the text is kept", x.clearText(), 3);
        check.is("the sign is taken back", x.level(0, 2), -1);
        check.is("the slot is kept", x.restore(0), 2);
        check.is("the sign of the slot", x.level(0, 2), 0);
        x.putSign(1);
        x.putCar(0);
        x.undo();
        check.is("an action behind undo()", x.putCar(1), 2);
        check.is("undo() of it", x.undo(), 1);
        check.is("undo() of the one before", x.undo(), 0);
    }

    private static void refusedCallsAreNotRemembered() {
        FloorPanels x = Check.house("xG");
        x.skip(1, true);
        check.raises("add(3, 0)", INDEX, () -> x.add(3, 0));
        check.raises("add(0, 4)", ARGUMENT, () -> x.add(0, 4));
        check.raises("remove(1)", STATE, () -> x.remove(1));
        check.raises("remove(2)", INDEX, () -> x.remove(2));
        check.raises("kind(2, 0)", INDEX, () -> x.kind(2, 0));
        check.raises("kind(0, 4)", ARGUMENT, () -> x.kind(0, 4));
        check.raises("kind(1, 1)", STATE, () -> x.kind(1, 1));
        check.raises("ground(0)", STATE, () -> x.ground(0));
        check.raises("ground(2)", INDEX, () -> x.ground(2));
        check.raises("skip(0, true)", ARGUMENT, () -> x.skip(0, true));
        check.raises("serve(0, 2, true)", INDEX, () -> x.serve(0, 2, true));
        check.raises("putSign(2)", INDEX, () -> x.putSign(2));
        check.raises("putButton(3, 0)", INDEX, () -> x.putButton(3, 0));
        check.raises("putCar(3)", INDEX, () -> x.putCar(3));
        check.raises("exchange(0, 0, 2)", INDEX, () -> x.exchange(0, 0, 2));
        check.is("undo() behind calls that threw", x.undo(), 0);
        check.is("what undo() took back", x.about(6), 0);
    }
}
