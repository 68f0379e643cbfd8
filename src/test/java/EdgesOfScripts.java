import java.math.BigInteger;

/** Scripts and simulations at their edges: the promises 29 and 30. */
final class EdgesOfScripts {
    private static final String SCRIPT = "Promise 29: runScript";
    private static final String SIMULATE = "Promise 30: simulate";
    private static final String FULL = "Gwwwwwwwwwwwwwww";
    private static final BigInteger WORD = BigInteger.ONE.shiftLeft(64);

    private final Check check;

    EdgesOfScripts(Check check) {
        this.check = check;
    }

    void run() {
        groupsOfFourDigits();
        scriptAdd();
        scriptRemove();
        scriptKind();
        scriptSkip();
        scriptPutSign();
        scriptPutButton();
        scriptPutCar();
        scriptIsRight();
        scriptAtMostWrong();
        whatAMethodWouldRefuse();
        anyOtherGroup();
        decimalNumbers();
        numberOfCommands();
        numberOfDigits();
        theFirstThatFails();
        noScript();
        onACopy();
        anySeed();
        withLongOverflow();
        turnsOfEachKind();
        whatThrowsIsLeftOut();
        oneToEightyTurns();
        wrongOnesAndLevels();
        noTurns();
    }

    /** On an object of its own each: a script must not change it. */
    private void script(String house, int n, long script, int due) {
        check.is("runScript(" + n + ", " + script + ") on " + house,
                Check.house(house).runScript(n, script), due);
    }

    private void succeed(String house, long... commands) {
        for (long command : commands) {
            script(house, 1, command, -1);
        }
    }

    private void fail(String house, long... commands) {
        for (long command : commands) {
            script(house, 1, command, 0);
        }
    }

    // ---- Promise 29

    private void groupsOfFourDigits() {
        check.of(SCRIPT, "A script has 1 to 3 commands; each is a group of four decimal digits d1 to d4, and"
                + " the first command is the highest group of the number (with zeros before it, if it has"
                + " fewer digits).");
        script("wGw", 1, 7000, -1);
        script("wGw", 2, 7000_7100L, -1);
        script("wGw", 3, 7000_7100_7200L, -1);
        // The first is the highest group: level 3 is there only behind the add.
        script("wGw", 2, 1033_5030L, -1);
        script("wGw", 2, 5030_1033L, 0);
        script("wGw", 3, 7000_1033_5030L, -1);
        script("wGw", 3, 1033_5030_5040L, 2);
        script("wGw", 3, 1033_1043_5040L, -1);
        script("wGw", 3, 1033_5040_1043L, 1);
        // Zeros before it make a group of zeros, which is no command.
        script("wGw", 1, 0, 0);
        script("wGw", 2, 7000, 0);
        script("wGw", 3, 7000_7100L, 0);
        script("wGw", 3, 7000, 0);
        script("wGw", 1, 700, 0);
        script("wGw", 2, 700_7000L, 0);
        script("wGw", 2, 7000_0700L, 1);
    }

    private void scriptAdd() {
        check.of(SCRIPT, "1 l l k: add(ll, k).");
        succeed("wGw", 1000, 1003, 1010, 1030, 1031, 1032, 1033);
        fail("wGw", 1004, 1009, 1040, 1034, 1100, 1990);
        succeed(FULL.substring(0, 15), 1000, 1150, 1153);
        fail(FULL.substring(0, 15), 1160, 1154);
        fail(FULL, 1000, 1150, 1160, 1170);
        script("wGw", 3, 1030_5030_5040L, 2);
        script("wGw", 3, 1000_2010_2010L, 2);
        script("wG", 3, 1000_3001_5020L, -1);
    }

    private void scriptRemove() {
        check.of(SCRIPT, "2 l l 0: remove(ll).");
        succeed("wGw", 2000, 2020);
        fail("wGw", 2010, 2030, 2040, 2990, 2001, 2009, 2021);
        succeed("wwwwwwwwwwwwwwwG", 2000, 2140);
        fail("wwwwwwwwwwwwwwwG", 2150, 2160);
        script("wGw", 3, 2000_2010_2010L, 2);
        script("wGw", 2, 2000_2000L, 1);
        script("G", 1, 2000, 0);
    }

    private void scriptKind() {
        check.of(SCRIPT, "3 l l k: kind(ll, k).");
        succeed("wGw", 3000, 3001, 3002, 3003, 3010, 3020, 3023);
        fail("wGw", 3004, 3009, 3011, 3012, 3013, 3014, 3030, 3033, 3990);
        succeed("wwwwwwwwwwwwwwwG", 3143, 3150);
        fail("wwwwwwwwwwwwwwwG", 3151, 3160);
        script("wGw", 3, 7000_3003_8000L, 2);
        script("wGw", 3, 3003_7000_8000L, -1);
    }

    private void scriptSkip() {
        check.of(SCRIPT, "4 s s b: skip(ss, b is 1).");
        succeed("wGw", 4010, 4011, 4300, 4301, 4151);
        fail("wGw", 4000, 4001, 4310, 4311, 4990, 4991);
        script("wGw", 3, 7000_4011_8002L, 2);
        script("wGw", 3, 4011_7000_4011L, -1);
        script("wGw", 3, 7000_4010_8002L, -1);
        script("wGw/1", 3, 7000_4011_8002L, -1);
        script("wGw/1", 3, 7000_4010_8002L, 2);
        script("wGw", 3, 7000_4021_8002L, -1);
    }

    private void scriptPutSign() {
        check.of(SCRIPT, "5 l l 0: putSign(ll).");
        succeed("wGw", 5000, 5010, 5020);
        fail("wGw", 5030, 5160, 5990, 5001, 5009);
        succeed(FULL, 5150);
        fail(FULL, 5160);
        script("wGw", 2, 5000_9011L, -1);
        script("wGw", 2, 5000_9010L, 1);
        script("wGw", 3, 5000_5020_9010L, -1);
    }

    private void scriptPutButton() {
        check.of(SCRIPT, "6 c l l: putButton(c, ll).");
        succeed("wGw", 6000, 6002, 6100, 6202);
        fail("wGw", 6003, 6203, 6300, 6900, 6999, 6016);
        succeed(FULL, 6015, 6215);
        fail(FULL, 6016, 6216, 6315);
        script("wGw", 2, 6102_8102L, -1);
        script("wGw", 2, 6102_8002L, 1);
        script("wGw", 2, 6102_8101L, 1);
        script("wGw", 2, 6102_9011L, -1);
        script("wGw", 2, 6102_9010L, 1);
    }

    private void scriptPutCar() {
        check.of(SCRIPT, "7 c 0 0: putCar(c).");
        succeed("wGw", 7000, 7100, 7200);
        fail("wGw", 7300, 7900, 7001, 7010, 7011, 7201);
        script("wGw", 2, 7200_8202L, -1);
        script("wGw", 2, 7200_8102L, 1);
        script("wGw", 2, 7200_9009L, -1);
        script("wGw", 2, 7200_9008L, 1);
        script("wGw", 3, 7200_7100_9006L, -1);
        script("wGw", 3, 7200_7100_9005L, 2);
    }

    private void scriptIsRight() {
        check.of(SCRIPT, "8 c l l: succeeds if the button of the car c for the level ll is right.");
        fail("wGx", 8000, 8001, 8100, 8201);
        succeed("wGx", 8002, 8102, 8202);
        fail("wGx", 8003, 8300, 8302, 8902, 8016);
        FloorPanels x = Check.house(FULL);
        x.putButton(2, 15);
        check.is("runScript(1, 8215)", x.runScript(1, 8215), -1);
        check.is("runScript(1, 8015)", x.runScript(1, 8015), 0);
        check.is("runScript(1, 8216)", x.runScript(1, 8216), 0);
        x.serve(2, 15, false);
        check.is("runScript(1, 8215) of a level not served", x.runScript(1, 8215), -1);
    }

    private void scriptAtMostWrong() {
        check.of(SCRIPT, "9 0 n n: succeeds if at most nn signs and buttons, together, are wrong.");
        succeed("wGw", 9012, 9013, 9099);
        fail("wGw", 9011, 9010, 9000, 9100, 9199, 9999);
        succeed(FULL, 9064, 9065);
        fail(FULL, 9063);
        succeed("G", 9004);
        fail("G", 9003);
        FloorPanels x = Check.right("wGw");
        check.is("runScript(1, 9000) when all are right", x.runScript(1, 9000), -1);
        check.is("runScript(1, 9100) when all are right", x.runScript(1, 9100), 0);
        x.exchange(2, 0, 2);
        check.is("runScript(1, 9001) when two are wrong", x.runScript(1, 9001), 0);
        check.is("runScript(1, 9002) when two are wrong", x.runScript(1, 9002), -1);
    }

    private void whatAMethodWouldRefuse() {
        check.of(SCRIPT, "The commands 1 to 7 fail if the method would throw an exception; commands with"
                + " levels or cars that do not exist fail,");
        fail("G", 1020, 1004, 2000, 2010, 3001, 3010, 3004, 4000, 4310, 5010, 6001, 6300, 7300, 8001, 8300);
        succeed("G", 1000, 1010, 3000, 4010, 4301, 5000, 6000, 7200);
        fail(FULL, 1000, 1160, 2000, 2160, 3001, 3160, 5160, 6016, 8016);
        succeed(FULL, 2150, 3153, 5150, 6215);
        // A level that was removed is none any more, one that was added is one.
        script("wGw", 2, 2020_5020L, 1);
        script("wGw", 2, 2020_6002L, 1);
        script("wGw", 2, 2020_3020L, 1);
        script("wxG", 2, 2000_8002L, 1);
        script("wGw", 2, 1033_8003L, -1);
        script("wGw", 2, 1033_8004L, 1);
        script(FULL.substring(0, 15), 2, 1000_1000L, 1);
        script(FULL, 2, 2150_1150L, -1);
    }

    /** Every group, against the plain list of those that succeed in this house. */
    private void anyOtherGroup() {
        check.of(SCRIPT, "and so does any other group (also one with another digit where a 0 is written, or a"
                + " b above 1).");
        FloorPanels x = new FloorPanels();
        for (int group = 0; group < 10000; group++) {
            if (group % 400 == 0) {
                x = Check.house("wGx/4");
                x.putButton(1, 0);
            }
            check.is("runScript(1, " + group + ")", x.runScript(1, group), succeeds(group) ? -1 : 0);
        }
    }

    private static boolean succeeds(int group) {
        int first = group / 1000;
        int second = group / 100 % 10;
        int middle = group / 10 % 100;
        int last = group % 10;
        int end = group % 100;
        return first == 1 && middle <= 3 && last <= 3
                || first == 2 && (middle == 0 || middle == 2) && last == 0
                || first == 3 && middle <= 2 && (middle == 1 ? last == 0 : last <= 3)
                || first == 4 && middle >= 1 && middle <= 30 && last <= 1
                || first == 5 && middle <= 2 && last == 0
                || first == 6 && second <= 2 && end <= 2
                || first == 7 && second <= 2 && end == 0
                || first == 8 && second <= 2 && (end == 2 || group == 8100)
                // 2 signs and 2 buttons of each car are wrong, but for the one put right.
                || first == 9 && second == 0 && end >= 7;
    }

    private void decimalNumbers() {
        check.of(SCRIPT, "ll, ss and nn are decimal numbers.");
        succeed(FULL, 5090, 5100, 5110, 5150, 6009, 6010, 6011, 4090, 4100, 4190, 4200, 4290, 4300);
        fail(FULL, 5160, 5200, 5990, 6016, 6020, 6099, 4310, 4320, 4400);
        FloorPanels x = Check.house(FULL);
        check.is("runScript(2, 3123 8012)", x.runScript(2, 3123_8012L), -1);
        check.is("runScript(2, 3123 8013)", x.runScript(2, 3123_8013L), 1);
        check.is("runScript(2, 3123 8011)", x.runScript(2, 3123_8011L), 1);
        check.is("runScript(3, 7000 4121 8011)", x.runScript(3, 7000_4121_8011L), -1);
        check.is("runScript(3, 7000 4121 8012)", x.runScript(3, 7000_4121_8012L), 2);
    }

    private void numberOfCommands() {
        check.of(SCRIPT, "- `n`: number of commands, 1 to 3");
        script("wGw", 1, 7000, -1);
        script("wGw", 2, 7000_7000L, -1);
        script("wGw", 3, 7000_7000_7000L, -1);
        script("wGw", 1, 7300, 0);
        script("wGw", 2, 7000_7300L, 1);
        script("wGw", 3, 7000_7000_7300L, 2);
    }

    private void numberOfDigits() {
        check.of(SCRIPT, "- `script`: the commands, a number of at most 4 * n digits (0 or more)");
        for (int n = 1; n <= 3; n++) {
            script("wGw", n, 0, 0);
            script("wGw", n, 1, 0);
        }
        script("wGw", 1, 9999, 0);
        script("wGw", 2, 9999_9999L, 0);
        script("wGw", 3, 9999_9999_9999L, 0);
        script("wGw", 1, 9099, -1);
        script("wGw", 2, 9099_9099L, -1);
        script("wGw", 3, 9099_9099_9099L, -1);
        script("wGw", 2, 9099_9999L, 1);
        script("wGw", 3, 9099_9099_9999L, 2);
    }

    private void theFirstThatFails() {
        check.of(SCRIPT, "Returns the index, from 0, of the first command that fails; NONE if all succeed.");
        script("wGw", 3, 7300_7300_7300L, 0);
        script("wGw", 3, 7000_7300_7300L, 1);
        script("wGw", 3, 7000_7000_7300L, 2);
        script("wGw", 3, 7000_7000_7000L, -1);
        script("wGw", 3, 7000_7300_7000L, 1);
        script("wGw", 3, 7300_7000_7000L, 0);
        script("wGw", 2, 7300_7000L, 0);
        script("wGw", 1, 7300, 0);
    }

    private void noScript() {
        check.of(SCRIPT, "Throws `IllegalArgumentException` if n is out of range, or if script is negative or"
                + " has more than 4 * n digits");
        Check.Maker busy = () -> Check.busy("wGw");
        for (int n : new int[] {0, 4, -1, 5, Integer.MIN_VALUE, Integer.MAX_VALUE}) {
            for (long script : new long[] {0, 7000, -1, Long.MAX_VALUE}) {
                check.refuses("runScript(" + n + ", " + script + ")", Check.ARGUMENT, busy,
                        x -> x.runScript(n, script));
            }
        }
        long above = 1;
        for (int n = 1; n <= 3; n++) {
            int commands = n;
            above *= 10000;
            long[] wrong = {-1, -7000, above, above + 7000, above * 10, 1L << 40,
                Long.MIN_VALUE, Long.MAX_VALUE, -above};
            for (long script : wrong) {
                check.refuses("runScript(" + n + ", " + script + ")", Check.ARGUMENT, busy,
                        x -> x.runScript(commands, script));
            }
            check.is("runScript(" + n + ", " + (above - 1) + ")", busy.make().runScript(n, above - 1), 0);
            check.is("runScript(" + n + ", 0)", busy.make().runScript(n, 0), 0);
        }
    }

    private void onACopy() {
        check.of(SCRIPT, "Runs a script on a copy of the state.");
        Check.Maker house = () -> Check.busy("whGw/5");
        String due = Check.all(house, x -> 0);
        long[] scripts = {1000, 1043, 2000, 2030, 3003, 3030, 4011, 4050, 5000, 6103, 7000, 7200, 8000,
            9000, 9999, 7300};
        for (long script : scripts) {
            check.same("all behind runScript(1, " + script + ")", Check.all(house, x -> x.runScript(1, script)),
                    due);
        }
        check.same("all behind a script of three", Check.all(house, x -> x.runScript(3, 1000_2000_7000L)), due);
        check.same("all behind one that fails", Check.all(house, x -> x.runScript(3, 1000_4011_9999L)), due);
        FloorPanels x = Check.house("wGw");
        check.is("the first time", x.runScript(3, 1033_5030_7000L), -1);
        check.is("the second time", x.runScript(3, 1033_5030_7000L), -1);
        check.is("without the add", x.runScript(1, 5030), 0);
        check.is("without the car", x.runScript(1, 8000), 0);
    }

    // ---- Promise 30

    private static int[] turnsOf(long seed, int m) {
        int[] turns = new int[m];
        BigInteger x = BigInteger.valueOf(seed).mod(WORD);
        for (int i = 0; i < m; i++) {
            x = x.multiply(new BigInteger("6364136223846793005")).add(new BigInteger("1442695040888963407"))
                    .mod(WORD);
            turns[i] = x.shiftRight(33).intValueExact();
        }
        return turns;
    }

    /** The turns that are called on the object itself; answers what simulate is to answer. */
    private static int played(FloorPanels x, int[] turns) {
        for (int r : turns) {
            int l = r / 16 % 16;
            Check.answer(x, y -> turn(y, r, l));
        }
        return 1000 * (x.about(2) + x.about(3)) + x.about(0);
    }

    private static int turn(FloorPanels x, int r, int l) {
        switch (r % 16) {
            case 0: case 1: return x.add(l, r / 256 % 4);
            case 2: return x.remove(l);
            case 3: return x.kind(l, r / 256 % 4);
            case 4: return x.ground(l);
            case 5: case 6: return x.skip(1 + r / 16 % 30, r / 512 % 2 == 0);
            case 7: return x.serve(r / 256 % 3, l, r / 1024 % 2 == 0);
            case 8: case 9: case 10: return x.putSign(l);
            case 11: return x.putCar(r / 256 % 3);
            case 12: return x.exchange(r / 256 % 3, l, r / 1024 % 16);
            default: return x.putButton(r / 256 % 3, l);
        }
    }

    private void simulated(String house, long seed, int m) {
        check.is("simulate(" + seed + ", " + m + ") of " + house, Check.house(house).simulate(seed, m),
                played(Check.house(house), turnsOf(seed, m)));
    }

    private void anySeed() {
        check.of(SIMULATE, "- `seed`: any long");
        long[] seeds = {0, 1, -1, Long.MIN_VALUE, Long.MAX_VALUE, Long.MIN_VALUE + 1, Long.MAX_VALUE - 1,
            Integer.MIN_VALUE, Integer.MAX_VALUE, 1L << 31, 1L << 32, 1L << 33, -(1L << 33)};
        for (long seed : seeds) {
            for (int m : new int[] {1, 2, 3, 5, 10, 20, 40, 79, 80}) {
                simulated("whGjxw/2,4", seed, m);
            }
        }
    }

    private void withLongOverflow() {
        check.of(SIMULATE, "A long x starts as the seed. Each turn first replaces x by x *"
                + " 6364136223846793005L + 1442695040888963407L (with long overflow), and r = (int) (x >>>"
                + " 33) is computed.");
        for (int i = 0; i < 64; i++) {
            simulated("wwwwGwwwwww", 1L << i, 1);
            simulated("wwwwGwwwwww", 1L << i, 60);
            simulated("wwwwGwwwwww", -(1L << i) - 3, 80);
        }
    }

    /** Each r that comes first for some seed: the kinds of turns, and their parts, one by one. */
    private void turnsOfEachKind() {
        check.of(SIMULATE, "l is r / 16 % 16. By r % 16: 0 and 1: add(l, r / 256 % 4). 2: remove(l). 3:"
                + " kind(l, r / 256 % 4). 4: ground(l). 5 and 6: skip(1 + r / 16 % 30, r / 512 % 2 == 0)."
                + " 7: serve(r / 256 % 3, l, r / 1024 % 2 == 0). 8 to 10: putSign(l). 11: putCar(r / 256 %"
                + " 3). 12: exchange(r / 256 % 3, l, r / 1024 % 16). Otherwise: putButton(r / 256 % 3, l).");
        String[] houses = {"whGjxw/2,4", "wwwwwwwGwwwwwwww", "G", "Gwwwwwwwwwwwwww/1,5"};
        int[] met = new int[16];
        for (int run = 0; run < 1200; run++) {
            long seed = 999_999_937L * run * run - 77L * run;
            for (int r : turnsOf(seed, 1)) {
                met[r % 16]++;
            }
            simulated(houses[run % 4], seed, 1);
            Check.Maker right = () -> Check.right("wwhwGwjwwxw");
            check.is("simulate(" + seed + ", 3) of a house that is right", right.make().simulate(seed, 3),
                    played(right.make(), turnsOf(seed, 3)));
        }
        for (int kind = 0; kind < 16; kind++) {
            check.is("a turn of kind " + kind + " was met", met[kind] > 0, true);
        }
    }

    private void whatThrowsIsLeftOut() {
        check.of(SIMULATE, "What would throw an exception is left out.");
        for (long seed = 0; seed < 40; seed++) {
            simulated("G", seed, 80);
            simulated("wwwwwwwwwwwwwwwG", seed, 80);
            simulated("xxxxxxxGxxxxxxxx", seed, 40);
        }
    }

    private void oneToEightyTurns() {
        check.of(SIMULATE, "- `m`: number of turns, 1 to 80");
        for (int m = 1; m <= 80; m++) {
            simulated("whGjxw/2,4", 20261120, m);
            simulated("G", -20261120L, m);
        }
    }

    private void wrongOnesAndLevels() {
        check.of(SIMULATE, "Returns 1000 * (the signs and buttons, together, that are wrong at the end) + (the"
                + " levels at the end).");
        Check.Maker maker = () -> Check.busy("whGjxw/2,4");
        for (int m : new int[] {1, 40, 80}) {
            FloorPanels x = maker.make();
            check.onlyAnswers("simulate(77, " + m + ")", played(x, turnsOf(77, m)), maker,
                    y -> y.simulate(77, m));
        }
        FloorPanels same = Check.right(FULL);
        int first = same.simulate(5, 80);
        check.is("simulate(5, 80) again", same.simulate(5, 80), first);
        // By hand. Seed 0: putButton(0, 11), putSign(0). 5: add(3, 0). 9: putCar(1). 8: ground(7).
        // 10: add(10, 2), remove(3). 2: exchange(2, 14, 12), putSign(10).
        check.is("simulate(0, 1) of one level", new FloorPanels().simulate(0, 1), 4001);
        check.is("simulate(0, 2) of one level", new FloorPanels().simulate(0, 2), 3001);
        check.is("simulate(5, 1) of three", Check.house("wGw").simulate(5, 1), 16004);
        check.is("simulate(9, 1) of three", Check.house("wGw").simulate(9, 1), 9003);
        check.is("simulate(8, 1) of 16", Check.right(FULL).simulate(8, 1), 64016);
        check.is("simulate(10, 1) of 16", Check.right(FULL).simulate(10, 1), 16);
        check.is("simulate(10, 2) of 16", Check.right(FULL).simulate(10, 2), 48015);
        check.is("simulate(2, 2) of 16", Check.right(FULL).simulate(2, 2), 2016);
    }

    private void noTurns() {
        check.of(SIMULATE, "Throws `IllegalArgumentException` if m is out of range");
        for (int m : new int[] {0, 81, -1, 82, Integer.MIN_VALUE, Integer.MAX_VALUE}) {
            for (long seed : new long[] {0, 1, -1, Long.MIN_VALUE, Long.MAX_VALUE}) {
                check.refuses("simulate(" + seed + ", " + m + ")", Check.ARGUMENT,
                        () -> Check.busy("wGw"), x -> x.simulate(seed, m));
            }
        }
        check.is("simulate(0, 1) is answered", Check.house("wGw").simulate(0, 1) > 0, true);
        check.is("simulate(0, 80) is answered", Check.house("wGw").simulate(0, 80) > 0, true);
    }
}
