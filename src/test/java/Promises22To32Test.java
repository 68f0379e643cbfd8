/** Rides, what would be, scripts, simulations and save slots. */
public final class Promises22To32Test {
    private static final Class<IllegalArgumentException> ARGUMENT = IllegalArgumentException.class;
    private static final Class<IllegalStateException> STATE = IllegalStateException.class;
    private static final Class<IndexOutOfBoundsException> INDEX = IndexOutOfBoundsException.class;

    private static final Check check = new Check();

    public static void main(String[] args) {
        goes();
        goesRefuses();
        astray();
        rides();
        ridesWithChanges();
        ridesThroughALongHouse();
        ifSkipped();
        bestSkip();
        ifAdded();
        worst();
        scriptsOfOneCommand();
        scriptsThatFail();
        scriptsOfMoreCommands();
        scriptsRefused();
        simulate();
        save();
        restore();
        nothingIsChanged();
        check.end();
    }

    private static void goes() {
        FloorPanels x = Check.house("wGhhxw");
        x.putCar(0);
        check.is("goes(0, 0, 4)", x.goes(0, 0, 4), 5);
        check.is("goes(0, 5, -4)", x.goes(0, 5, -4), 0);
        check.is("goes(0, 0, 1), the lowest", x.goes(0, 0, 1), 2);
        check.is("goes(0, 2, 1), another one", x.goes(0, 2, 1), 3);
        check.is("goes(0, 3, 1)", x.goes(0, 3, 1), 2);
        check.is("goes(0, 1, 0), to itself", x.goes(0, 1, 0), -1);
        check.is("goes(0, 1, 8), which no button says", x.goes(0, 1, 8), -1);
        check.is("goes(0, 1, -1), nothing", x.goes(0, 1, -1), -1);
        check.is("goes(1, 0, 4), where no button says a name", x.goes(1, 0, 4), -1);
        check.is("goes(1, 0, -1), where all say nothing", x.goes(1, 0, -1), -1);
        check.is("goes(0, 4, 4) from one walled up", x.goes(0, 4, 4), -1);
        x.exchange(0, 0, 5);
        check.is("goes(0, 1, 4) by a button that is wrong", x.goes(0, 1, 4), 0);
        x.serve(0, 2, false);
        check.is("goes(0, 0, 1) past a level not served", x.goes(0, 0, 1), 3);
        check.is("goes(0, 2, 4) from a level not served", x.goes(0, 2, 4), -1);
        x.kind(0, 3);
        check.is("goes(0, 1, 4) to a level without a name", x.goes(0, 1, 4), -1);
    }

    private static void goesRefuses() {
        FloorPanels x = Check.house("wG");
        check.raises("goes(-1, 0, 0)", INDEX, () -> x.goes(-1, 0, 0));
        check.raises("goes(3, 0, 0)", INDEX, () -> x.goes(3, 0, 0));
        check.raises("goes(0, -1, 0)", INDEX, () -> x.goes(0, -1, 0));
        check.raises("goes(0, 2, 0)", INDEX, () -> x.goes(0, 2, 0));
        check.is("goes(0, 0, least)", x.goes(0, 0, Integer.MIN_VALUE), -1);
        check.is("goes(0, 0, greatest)", x.goes(0, 0, Integer.MAX_VALUE), -1);
    }

    private static void astray() {
        FloorPanels x = Check.house("wGw");
        check.is("astray(0) of buttons that say nothing", x.astray(0), 6);
        x.putCar(0);
        check.is("astray(0) of buttons that are right", x.astray(0), 0);
        x.exchange(0, 0, 2);
        check.is("astray(0) of buttons that are exchanged", x.astray(0), 0);
        x.serve(1, 0, false);
        check.is("astray(1) of two levels that are served", x.astray(1), 2);
        x.kind(2, 3);
        check.is("astray(1) of one", x.astray(1), 0);
        FloorPanels y = Check.house("Ghhh");
        y.putCar(2);
        // From 0 to 2 and 3, from 1 to 3, from 2 to 3, from 3 to 2.
        check.is("astray(2) of three with one name", y.astray(2), 5);
        check.is("astray(1) of the same", y.astray(1), 12);
        FloorPanels z = Check.house("Gxw");
        z.putCar(0);
        check.is("astray(0) past one walled up", z.astray(0), 0);
        check.is("astray(0) of the ground alone", new FloorPanels().astray(0), 0);
        check.raises("astray(-1)", INDEX, () -> x.astray(-1));
        check.raises("astray(3)", INDEX, () -> x.astray(3));
    }

    private static void rides() {
        FloorPanels x = Check.house("wGxw");
        check.is("rides(0, 0)", x.rides(0, 0), 0);
        check.is("rides(2, 2) of one walled up", x.rides(2, 2), 0);
        check.is("rides(0, 1) without buttons", x.rides(0, 1), -1);
        x.putButton(1, 1);
        check.is("rides(0, 1)", x.rides(0, 1), 1);
        check.is("rides(1, 0) has no button", x.rides(1, 0), -1);
        check.is("rides(3, 1)", x.rides(3, 1), 1);
        check.is("rides(2, 1) from one walled up", x.rides(2, 1), -1);
        x.putCar(0);
        check.is("rides(1, 2) to one walled up", x.rides(1, 2), -1);
        check.is("rides(0, 3)", x.rides(0, 3), 1);
        check.raises("rides(-1, 0)", INDEX, () -> x.rides(-1, 0));
        check.raises("rides(4, 0)", INDEX, () -> x.rides(4, 0));
        check.raises("rides(0, -1)", INDEX, () -> x.rides(0, -1));
        check.raises("rides(0, 4)", INDEX, () -> x.rides(0, 4));
        check.raises("rides(4, 4)", INDEX, () -> x.rides(4, 4));
    }

    private static void ridesWithChanges() {
        FloorPanels x = Check.house("wGwww");
        x.putCar(0);
        x.putCar(1);
        x.putCar(2);
        for (int l = 0; l < 5; l++) {
            x.serve(0, l, l <= 1);
            x.serve(1, l, l >= 1 && l <= 3);
            x.serve(2, l, l >= 3);
        }
        check.is("rides(0, 4)", x.rides(0, 4), 3);
        check.is("rides(4, 0)", x.rides(4, 0), 3);
        check.is("rides(0, 3)", x.rides(0, 3), 2);
        check.is("rides(1, 3)", x.rides(1, 3), 1);
        x.serve(1, 3, false);
        check.is("rides(0, 4) without a change", x.rides(0, 4), -1);
        check.is("rides(3, 4)", x.rides(3, 4), 1);
        FloorPanels y = Check.house("Ghhh");
        y.putCar(0);
        // The lowest of one name hides the others, except from itself.
        check.is("rides(0, 1) of one name", y.rides(0, 1), 1);
        check.is("rides(0, 2) of one name", y.rides(0, 2), 2);
        check.is("rides(0, 3) of one name", y.rides(0, 3), -1);
    }

    /** Two cars meet at level 1; no car serves a level above 2. */
    private static void ridesThroughALongHouse() {
        FloorPanels x = Check.house("Gwwwwwwwwwwwwwww");
        for (int l = 0; l < 16; l++) {
            for (int c = 0; c < 3; c++) {
                x.serve(c, l, false);
            }
        }
        x.putCar(0);
        x.putCar(1);
        x.serve(0, 0, true);
        x.serve(0, 1, true);
        x.serve(1, 1, true);
        x.serve(1, 2, true);
        check.is("rides(0, 2) in two cars", x.rides(0, 2), 2);
        check.is("rides(0, 3), not served", x.rides(0, 3), -1);
        check.is("rides(2, 0)", x.rides(2, 0), 2);
        check.is("rides(15, 15), not served", x.rides(15, 15), 0);
    }

    private static void ifSkipped() {
        FloorPanels x = Check.house("wGwhw/5");
        check.is("ifSkipped(1) of a new house", x.ifSkipped(1), 20);
        Check.putAllRight(x);
        check.is("ifSkipped(1)", x.ifSkipped(1), 12);
        check.is("ifSkipped(2)", x.ifSkipped(2), 4);
        check.is("ifSkipped(3)", x.ifSkipped(3), 0);
        check.is("ifSkipped(5), which is", x.ifSkipped(5), 0);
        check.is("ifSkipped(30)", x.ifSkipped(30), 0);
        x.skip(1, true);
        check.is("ifSkipped(1), which is", x.ifSkipped(1), 0);
        check.is("ifSkipped(2) then", x.ifSkipped(2), 12);
        check.is("ifSkipped(4) then", x.ifSkipped(4), 12);
        x.putSign(2);
        check.is("ifSkipped(1) with one sign for it", x.ifSkipped(1), 1);
        check.raises("ifSkipped(0)", ARGUMENT, () -> x.ifSkipped(0));
        check.raises("ifSkipped(31)", ARGUMENT, () -> x.ifSkipped(31));
        check.raises("ifSkipped(-1)", ARGUMENT, () -> x.ifSkipped(-1));
    }

    private static void bestSkip() {
        FloorPanels x = Check.house("Gwww");
        check.is("bestSkip() when all say nothing", x.bestSkip(), -1);
        Check.putAllRight(x);
        check.is("bestSkip() when all is right", x.bestSkip(), -1);
        x.skip(2, true);
        check.is("bestSkip() behind skip(2, true)", x.bestSkip(), 2);
        x.skip(2, false);
        x.skip(30, true);
        check.is("bestSkip() behind skip(30, true)", x.bestSkip(), -1);
        FloorPanels y = Check.house("Gw/1");
        Check.putAllRight(y);
        y.skip(1, false);
        check.is("bestSkip() behind skip(1, false)", y.bestSkip(), 1);
        FloorPanels z = Check.house("Gw/1,2,3");
        Check.putAllRight(z);
        z.skip(1, false);
        z.skip(2, false);
        // Just storey 4 is right, and no one change leads there.
        check.is("bestSkip() where two are needed", z.bestSkip(), -1);
        FloorPanels high = skippedTo(29, "Gw");
        Check.putAllRight(high);
        high.kind(1, 3);
        check.is("bestSkip() where no storey is in use", high.bestSkip(), -1);
        high.kind(1, 0);
        high.add(1, 0);
        // The old level is now 31: it is right again as soon as any of 1 to 29 is used.
        check.is("bestSkip() of several, the lowest", high.bestSkip(), 1);
        FloorPanels last = skippedTo(30, "Gw");
        Check.putAllRight(last);
        last.skip(30, false);
        check.is("bestSkip() of the last storey", last.bestSkip(), 30);
    }

    private static FloorPanels skippedTo(int last, String text) {
        FloorPanels x = Check.house(text);
        for (int storey = 1; storey <= last; storey++) {
            x.skip(storey, true);
        }
        return x;
    }

    private static void ifAdded() {
        FloorPanels x = Check.house("wGwhw");
        check.is("ifAdded(0, 0) of a new house", x.ifAdded(0, 0), 20);
        check.is("ifAdded(2, 3) of a new house", x.ifAdded(2, 3), 20);
        Check.putAllRight(x);
        check.is("ifAdded(0, 0)", x.ifAdded(0, 0), 0);
        check.is("ifAdded(1, 0)", x.ifAdded(1, 0), 4);
        check.is("ifAdded(2, 0)", x.ifAdded(2, 0), 12);
        check.is("ifAdded(4, 0)", x.ifAdded(4, 0), 4);
        check.is("ifAdded(5, 0)", x.ifAdded(5, 0), 0);
        check.is("ifAdded(2, 1)", x.ifAdded(2, 1), 0);
        check.is("ifAdded(2, 3)", x.ifAdded(2, 3), 0);
        x.skip(1, true);
        check.is("ifAdded(2, 2)", x.ifAdded(2, 2), 12);
        check.raises("ifAdded(-1, 0)", INDEX, () -> x.ifAdded(-1, 0));
        check.raises("ifAdded(6, 0)", INDEX, () -> x.ifAdded(6, 0));
        check.raises("ifAdded(6, 4)", INDEX, () -> x.ifAdded(6, 4));
        check.raises("ifAdded(5, 4)", ARGUMENT, () -> x.ifAdded(5, 4));
        check.raises("ifAdded(0, -1)", ARGUMENT, () -> x.ifAdded(0, -1));
        FloorPanels full = Check.house("Gwwwwwwwwwwwwwww");
        check.raises("ifAdded(16, 0) to 16", STATE, () -> full.ifAdded(16, 0));
        check.raises("ifAdded(17, 0) to 16", INDEX, () -> full.ifAdded(17, 0));
        check.raises("ifAdded(0, 4) to 16", ARGUMENT, () -> full.ifAdded(0, 4));
    }

    private static void worst() {
        FloorPanels x = Check.house("wGw");
        check.is("worst() of three alike", x.worst(), 0);
        x.putCar(0);
        check.is("worst() of the last two", x.worst(), 1);
        x.putCar(1);
        check.is("worst() of the last", x.worst(), 2);
        x.putCar(2);
        check.is("worst() of none", x.worst(), 0);
        x.serve(0, 0, false);
        check.is("worst() of those that lead nowhere", x.worst(), 0);
        check.is("worst() of the ground alone", new FloorPanels().worst(), 0);
    }

    private static void script(FloorPanels x, int n, long script, int due) {
        check.is("runScript(" + n + ", " + script + ")", x.runScript(n, script), due);
    }

    private static void scriptsOfOneCommand() {
        FloorPanels x = Check.house("wGw");
        x.putButton(2, 1);
        String before = Check.seen(x);
        long[] succeed = {1000, 1033, 1013, 2000, 2020, 3003, 3010, 3020, 3022, 4011, 4010, 4301,
            5000, 5020, 6000, 6202, 7000, 7200, 8201, 9011, 9012, 9099};
        for (long command : succeed) {
            script(x, 1, command, -1);
        }
        check.same("the state behind scripts", Check.seen(x), before);
        x.putCar(1);
        script(x, 1, 8100, -1);
        script(x, 1, 8102, -1);
        Check.putAllRight(x);
        script(x, 1, 9000, -1);
    }

    private static void scriptsThatFail() {
        FloorPanels x = Check.house("wGw");
        x.putButton(2, 1);
        String before = Check.seen(x);
        long[] fail = {0, 1, 10, 100, 999, 1040, 1004, 1009, 2030, 2010, 2001, 2029, 3030, 3004,
            3011, 3012, 3013, 3009, 4000, 4001, 4012, 4019, 4310, 4311, 4991, 5030, 5001, 5990,
            6003, 6300, 6900, 7300, 7001, 7010, 7900, 8003, 8300, 8200, 8202, 8000, 9010, 9000,
            9100, 9199, 9999};
        for (long command : fail) {
            script(x, 1, command, 0);
        }
        check.same("the state behind scripts that fail", Check.seen(x), before);
        FloorPanels full = Check.house("Gwwwwwwwwwwwwwww");
        script(full, 1, 1000, 0);
        script(full, 1, 1160, 0);
        script(full, 1, 3151, -1);
        script(full, 2, 2150_1150L, -1);
    }

    private static void scriptsOfMoreCommands() {
        FloorPanels x = Check.house("wGw");
        String before = Check.seen(x);
        script(x, 3, 7000_7100_7200L, -1);
        script(x, 3, 7000_7100_9007L, -1);
        script(x, 3, 7000_7100_9006L, -1);
        script(x, 3, 7000_7100_9005L, 2);
        script(x, 3, 7000_7300_9005L, 1);
        script(x, 3, 8000_7000_8000L, 0);
        script(x, 3, 7000_8002_8001L, -1);
        script(x, 3, 7000_8002_8102L, 2);
        script(x, 2, 6002_8002L, -1);
        script(x, 2, 5000_9011L, -1);
        script(x, 2, 5000_9010L, 1);
        script(x, 3, 7000_4011_8002L, 2);
        script(x, 3, 7000_4011_8001L, -1);
        script(x, 3, 7000_4010_8002L, -1);
        script(x, 3, 1033_3030_2030L, -1);
        script(x, 3, 7000_1020_8002L, 2);
        script(x, 3, 7000_1020_8003L, 2);
        script(x, 3, 7000_1023_8003L, -1);
        script(x, 3, 7000_3023_8002L, 2);
        script(x, 3, 7000_2000_8001L, -1);
        script(x, 3, 2000_2010_2000L, 2);
        // Zeros before the first command, which is none then.
        script(x, 2, 7000L, 0);
        script(x, 3, 7000_7000L, 0);
        script(x, 3, 0L, 0);
        script(x, 3, 999999999999L, 0);
        script(x, 2, 5020_5021L, 1);
        check.same("the state behind scripts of more commands", Check.seen(x), before);
        x.add(3, 0);
        check.is("undo() behind scripts", x.undo(), 0);
    }

    private static void scriptsRefused() {
        FloorPanels x = Check.house("wGw");
        check.raises("runScript(0, 0)", ARGUMENT, () -> x.runScript(0, 0));
        check.raises("runScript(4, 7000)", ARGUMENT, () -> x.runScript(4, 7000));
        check.raises("runScript(-1, 7000)", ARGUMENT, () -> x.runScript(-1, 7000));
        check.raises("runScript(1, -1)", ARGUMENT, () -> x.runScript(1, -1));
        check.raises("runScript(3, least)", ARGUMENT, () -> x.runScript(3, Long.MIN_VALUE));
        check.raises("runScript(1, 10000)", ARGUMENT, () -> x.runScript(1, 10000));
        check.raises("runScript(2, 8 zeros)", ARGUMENT, () -> x.runScript(2, 100000000L));
        check.raises("runScript(3, 12 zeros)", ARGUMENT, () -> x.runScript(3, 1000000000000L));
        check.raises("runScript(3, greatest)", ARGUMENT, () -> x.runScript(3, Long.MAX_VALUE));
        script(x, 1, 9999, 0);
        script(x, 2, 99999999L, 0);
    }

    /** Against the calls that the turns are made of. */
    private static void simulate() {
        for (int run = 0; run < 60; run++) {
            FloorPanels x = Check.house(run % 2 == 0 ? "whGjxw/2,4" : "wwwwGwwwwwwwwwww");
            FloorPanels same = Check.house(run % 2 == 0 ? "whGjxw/2,4" : "wwwwGwwwwwwwwwww");
            long seed = run * 7777777777777L - 99;
            long next = seed;
            for (int m = 1; m <= 80; m++) {
                next = next * 6364136223846793005L + 1442695040888963407L;
                turn(same, (int) (next >>> 33));
                long due = 1000L * (same.about(2) + same.about(3)) + same.about(0);
                check.is("simulate(" + seed + ", " + m + ")", x.simulate(seed, m), due);
            }
            check.raises("undo() behind simulate", STATE, () -> x.undo());
        }
        FloorPanels x = new FloorPanels();
        check.raises("simulate(1, 0)", ARGUMENT, () -> x.simulate(1, 0));
        check.raises("simulate(1, 81)", ARGUMENT, () -> x.simulate(1, 81));
        check.raises("simulate(1, -1)", ARGUMENT, () -> x.simulate(1, -1));
        check.is("simulate(greatest, 80)", x.simulate(Long.MAX_VALUE, 80) % 1000 <= 16, true);
        check.is("simulate(least, 80)", x.simulate(Long.MIN_VALUE, 80) % 1000 >= 1, true);
    }

    private static void turn(FloorPanels x, int r) {
        int l = r / 16 % 16;
        int what = r % 16;
        try {
            if (what <= 1) {
                x.add(l, r / 256 % 4);
            } else if (what == 2) {
                x.remove(l);
            } else if (what == 3) {
                x.kind(l, r / 256 % 4);
            } else if (what == 4) {
                x.ground(l);
            } else if (what <= 6) {
                x.skip(1 + r / 16 % 30, r / 512 % 2 == 0);
            } else if (what == 7) {
                x.serve(r / 256 % 3, l, r / 1024 % 2 == 0);
            } else if (what <= 10) {
                x.putSign(l);
            } else if (what == 11) {
                x.putCar(r / 256 % 3);
            } else if (what == 12) {
                x.exchange(r / 256 % 3, l, r / 1024 % 16);
            } else {
                x.putButton(r / 256 % 3, l);
            }
        } catch (RuntimeException e) {
            // It is left out.
        }
    }

    private static void save() {
        FloorPanels x = Check.house("wGw");
        check.is("save(0)", x.save(0), 3);
        x.add(0, 0);
        check.is("save(1)", x.save(1), 4);
        check.is("undo() behind save", x.undo(), 0);
        check.is("restore(1)", x.restore(1), 4);
        check.is("restore(0)", x.restore(0), 3);
        x.remove(0);
        check.is("save(0) over another state", x.save(0), 2);
        x.remove(1);
        check.is("restore(0) of the later state", x.restore(0), 2);
        check.raises("save(-1)", INDEX, () -> x.save(-1));
        check.raises("save(2)", INDEX, () -> x.save(2));
        check.raises("save(greatest)", INDEX, () -> x.save(Integer.MAX_VALUE));
    }

    private static void restore() {
        FloorPanels x = Check.house("whGjxw/3,9");
        x.putCar(1);
        x.putSign(5);
        x.serve(2, 0, false);
        x.save(0);
        String before = Check.seen(x);
        x.ground(5);
        x.skip(9, false);
        x.skip(1, true);
        x.putCar(0);
        x.remove(0);
        x.kind(1, 3);
        x.serve(2, 1, false);
        x.putSign(0);
        check.is("restore(0)", x.restore(0), 6);
        check.same("the state that is restored", Check.seen(x), before);
        check.raises("undo() behind restore()", STATE, () -> x.undo());
        check.raises("restore(1), never saved", STATE, () -> x.restore(1));
        x.add(0, 0);
        check.is("undo() of an action behind restore()", x.undo(), 0);
        x.add(0, 0);
        check.is("restore(0) again", x.restore(0), 6);
        check.same("the state that is restored again", Check.seen(x), before);
        x.add(0, 0);
        check.raises("restore(-1)", INDEX, () -> x.restore(-1));
        check.raises("restore(2)", INDEX, () -> x.restore(2));
        check.raises("restore(1)", STATE, () -> x.restore(1));
        check.is("undo() behind a restore() that threw", x.undo(), 0);
        x.append('w');
        x.restore(0);
        check.is("the text behind restore()", x.clearText(), 11);
    }

    /** What asks does not act: nothing is different, and nothing is remembered. */
    private static void nothingIsChanged() {
        FloorPanels x = Check.house("whGjxwhh/3,9");
        x.putCar(1);
        x.putSign(2);
        x.skip(1, true);
        String before = Check.seen(x);
        for (int storey = 1; storey <= 30; storey++) {
            x.ifSkipped(storey);
        }
        for (int l = 0; l < 8; l++) {
            x.ifAdded(l, l % 4);
            x.goes(1, l, 4);
            x.rides(l, 7 - l);
        }
        x.bestSkip();
        x.worst();
        x.astray(1);
        x.named(4, 0);
        x.runScript(3, 7000_1000_4011L);
        x.simulate(5, 80);
        x.save(0);
        x.errorPosition();
        check.same("the state behind calls that ask", Check.seen(x), before);
        check.is("undo() behind calls that ask", x.undo(), 2);
        check.is("what undo() took back", x.isSkipped(1), false);
    }
}
