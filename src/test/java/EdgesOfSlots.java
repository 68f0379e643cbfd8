/** The save slots at their edges: the promises 31 and 32. */
final class EdgesOfSlots {
    private static final String SAVE = "Promise 31: save";
    private static final String RESTORE = "Promise 32: restore";
    private static final String FULL = "Gwwwwwwwwwwwwwww";
    private static final int[] NO_SLOTS = {-1, 2, 3, Integer.MIN_VALUE, Integer.MAX_VALUE};

    private final Check check;

    EdgesOfSlots(Check check) {
        this.check = check;
    }

    void run() {
        slotsToSave();
        thePresentState();
        theLevelsThatAreSaved();
        noSlotToSave();
        slotsToRestore();
        replacesTheState();
        forgetsAllRememberedStates();
        theSlotKeepsIt();
        theLevelsThen();
        noSlotToRestore();
        nothingHasBeenSaved();
    }

    // ---- Promise 31

    private void slotsToSave() {
        check.of(SAVE, "- `slot`: 0 or 1");
        for (int slot = 0; slot <= 1; slot++) {
            FloorPanels x = Check.house("wGw");
            check.is("save(" + slot + ")", x.save(slot), 3);
            int other = 1 - slot;
            check.raises("restore(" + other + ")", Check.STATE, () -> x.restore(other));
            check.is("restore(" + slot + ")", x.restore(slot), 3);
        }
        FloorPanels x = Check.house("wGw");
        x.save(0);
        x.add(3, 0);
        x.save(1);
        x.add(4, 0);
        check.is("restore(0) of two", x.restore(0), 3);
        check.is("restore(1) of two", x.restore(1), 4);
        check.is("restore(0) of two again", x.restore(0), 3);
    }

    private void thePresentState() {
        check.of(SAVE, "`int save(int slot) throws IndexOutOfBoundsException`: Stores the present state in a"
                + " save slot.");
        for (int slot = 0; slot <= 1; slot++) {
            int number = slot;
            // Saving is no action: undo and the state are as they would be without it.
            FloorPanels x = Check.busy("whGjxw");
            String before = Check.seen(Check.busy("whGjxw"));
            x.save(slot);
            check.is("undo() behind save(" + slot + ")", x.undo(), 8);
            FloorPanels y = Check.busy("whGjxw");
            y.save(slot);
            check.same("the state behind save(" + slot + ")", Check.seen(y), before);
            FloorPanels z = Check.busy("whGjxw");
            z.save(slot);
            z.skip(30, true);
            z.putCar(2);
            z.remove(0);
            z.add(0, 3);
            z.ground(5);
            z.serve(0, 1, false);
            z.exchange(1, 0, 5);
            z.restore(number);
            check.same("the state that was saved in " + slot, Check.seen(z), before);
        }
        FloorPanels twice = Check.house("wGw");
        twice.save(0);
        twice.remove(0);
        twice.save(0);
        twice.remove(1);
        check.is("restore(0) of what was saved last", twice.restore(0), 2);
        check.is("the ground of it", twice.about(1), 0);
    }

    private void theLevelsThatAreSaved() {
        check.of(SAVE, "Returns the levels.");
        for (int levels = 1; levels <= 16; levels++) {
            String text = FULL.substring(0, levels);
            for (int slot = 0; slot <= 1; slot++) {
                FloorPanels x = Check.house(text);
                check.is("save(" + slot + ") of " + levels, x.save(slot), levels);
                check.is("about(0) then", x.about(0), levels);
            }
        }
    }

    private void noSlotToSave() {
        check.of(SAVE, "Throws `IndexOutOfBoundsException` if there is no such save slot");
        for (int slot : NO_SLOTS) {
            check.refuses("save(" + slot + ")", Check.INDEX, () -> Check.busy("whGw"), x -> x.save(slot));
            check.refuses("save(" + slot + ") of a new object", Check.INDEX, FloorPanels::new,
                    x -> x.save(slot));
        }
    }

    // ---- Promise 32

    private void slotsToRestore() {
        check.of(RESTORE, "- `slot`: 0 or 1");
        FloorPanels x = new FloorPanels();
        x.save(0);
        for (int levels = 2; levels <= 16; levels++) {
            x.add(1, 0);
        }
        x.save(1);
        check.is("restore(0) of one level", x.restore(0), 1);
        check.is("the levels then", x.about(0), 1);
        check.is("restore(1) of 16 levels", x.restore(1), 16);
        check.is("the levels then", x.about(0), 16);
        check.is("the name of the highest", x.level(15, 1), 60);
    }

    private void replacesTheState() {
        check.of(RESTORE, "Replaces the state by the one in a save slot,");
        String due = Check.seen(saved());
        for (int slot = 0; slot <= 1; slot++) {
            FloorPanels x = saved();
            x.save(slot);
            x.add(3, 0);
            x.ground(3);
            x.kind(1, 3);
            x.skip(5, false);
            x.skip(1, true);
            x.skip(30, true);
            x.serve(2, 0, false);
            x.serve(0, 5, true);
            x.putCar(0);
            x.putSign(5);
            x.remove(0);
            check.is("restore(" + slot + ")", x.restore(slot), 6);
            check.same("the state behind restore(" + slot + ")", Check.seen(x), due);
        }
        FloorPanels full = Check.right("wwwwwwwGwwwwwwww");
        full.save(0);
        for (int i = 0; i < 8; i++) {
            full.remove(full.about(0) - 1);
        }
        full.restore(0);
        check.is("the sign of the highest", full.level(15, 2), 32);
        check.is("the wrong ones", full.about(2) + full.about(3), 0);
        for (int slot = 0; slot <= 1; slot++) {
            FloorPanels x = Check.manifold("wwwwwwwGwwwwwwww");
            String before = told(x);
            x.save(slot);
            for (int l = 0; l <= 15; l++) {
                x.putSign(l);
                for (int c = 0; c <= 2; c++) {
                    x.serve(c, l, x.button(c, l, 2) == 0);
                }
            }
            x.exchange(0, 3, 4);
            x.putCar(1);
            x.putCar(2);
            x.restore(slot);
            check.same("a full house behind restore(" + slot + ")", told(x), before);
        }
        FloorPanels text = Check.house("wGw");
        text.save(0);
        text.clearText();
        text.append('G');
        text.restore(0);
        check.is("the text behind restore()", text.clearText(), 1);
    }

    private static String told(FloorPanels x) {
        StringBuilder s = new StringBuilder(Check.signs(x));
        for (int c = 0; c <= 2; c++) {
            s.append("; ").append(Check.buttons(x, c)).append("; ").append(Check.served(x, c));
        }
        return s.toString();
    }

    private static FloorPanels saved() {
        FloorPanels x = Check.house("whGjxw/5,9");
        x.putCar(1);
        x.putSign(5);
        x.serve(0, 5, false);
        x.exchange(1, 0, 5);
        return x;
    }

    private void forgetsAllRememberedStates() {
        check.of(RESTORE, "and forgets all remembered states.");
        for (int actions : new int[] {0, 1, 13, 14, 15, 40}) {
            FloorPanels x = new FloorPanels();
            x.save(0);
            for (int i = 0; i < actions; i++) {
                x.skip(1 + i % 30, i < 30);
            }
            x.restore(0);
            check.raises("undo() behind " + actions + " actions and restore()", Check.STATE, () -> x.undo());
            check.is("the skipped storeys then", x.about(6), 0);
            for (int i = 1; i <= 15; i++) {
                x.skip(i, true);
            }
            for (int left = 13; left >= 0; left--) {
                check.is("undo() of an action behind restore()", x.undo(), left);
            }
            check.raises("undo() of no more", Check.STATE, () -> x.undo());
            check.is("the skipped storeys at the end", x.about(6), 1);
        }
    }

    private void theSlotKeepsIt() {
        check.of(RESTORE, "The save slot keeps it.");
        FloorPanels x = Check.right("wGw");
        x.save(1);
        for (int i = 0; i < 3; i++) {
            check.is("restore(1), time " + (i + 1), x.restore(1), 3);
            check.same("the signs", Check.signs(x), "-4 0 4");
            check.same("the buttons", Check.buttons(x, 2), "-4 0 4");
            check.is("the skipped storeys", x.about(6), 0);
            x.exchange(2, 0, 2);
            x.skip(1, true);
            x.putSign(2);
            x.remove(0);
        }
        x.restore(1);
        x.putSign(0);
        x.undo();
        check.is("restore(1) behind undo()", x.restore(1), 3);
        x.save(0);
        x.remove(0);
        x.restore(0);
        check.is("restore(1) behind restore(0)", x.restore(1), 3);
    }

    private void theLevelsThen() {
        check.of(RESTORE, "Returns the levels then.");
        for (int levels = 1; levels <= 16; levels++) {
            FloorPanels x = Check.house(FULL.substring(0, levels));
            x.save(0);
            if (levels < 16) {
                x.add(0, 0);
            } else {
                x.remove(15);
            }
            check.is("restore(0) of " + levels, x.restore(0), levels);
            check.is("about(0) then", x.about(0), levels);
        }
    }

    private void noSlotToRestore() {
        check.of(RESTORE, "Throws `IndexOutOfBoundsException` if there is no such save slot");
        for (int slot : NO_SLOTS) {
            check.refuses("restore(" + slot + ")", Check.INDEX, () -> Check.busy("whGw"),
                    x -> x.restore(slot));
            check.refuses("restore(" + slot + ") of a new object", Check.INDEX, FloorPanels::new,
                    x -> x.restore(slot));
        }
    }

    private void nothingHasBeenSaved() {
        check.of(RESTORE, "Throws `IllegalStateException` if nothing has been saved in it since the last load");
        for (int slot = 0; slot <= 1; slot++) {
            int number = slot;
            check.refuses("restore(" + slot + ") of a new object", Check.STATE, FloorPanels::new,
                    x -> x.restore(number));
            check.refuses("restore(" + slot + ") behind save() of the other", Check.STATE, () -> {
                FloorPanels x = Check.house("wGw");
                x.putSign(0);
                x.save(1 - number);
                x.putSign(2);
                return x;
            }, x -> x.restore(number));
            check.refuses("restore(" + slot + ") behind load()", Check.STATE, () -> {
                FloorPanels x = Check.busy("wGw");
                x.load();
                x.putSign(1);
                return x;
            }, x -> x.restore(number));
        }
        FloorPanels x = Check.house("wGw");
        x.save(0);
        x.load();
        check.raises("restore(0) behind load()", Check.STATE, () -> x.restore(0));
        x.save(0);
        check.is("restore(0) of what was saved since", x.restore(0), 3);
        x.append('/');
        check.raises("load() of no house", Check.STATE, () -> x.load());
        check.is("restore(0) behind a load() that threw", x.restore(0), 3);
    }
}
