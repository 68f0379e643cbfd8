import java.util.ArrayList;
import java.util.List;

/** What the section "Terms" of the document says of levels and names, at its edges. */
final class EdgesOfLevels {
    private static final String TERMS = "Terms";

    private final Check check;

    EdgesOfLevels(Check check) {
        this.check = check;
    }

    void run() {
        oneToSixteenLevels();
        kindsZeroToThree();
        oneWholeLevelIsTheGround();
        atFirstOneLevel();
        theGroundStaysTheSame();
        allThatALevelHasGoesWithIt();
        namesAsNumbers();
        theGroundHasStoreyZero();
        theNextStoreyThatIsNotSkipped();
        halfLevelsAboveTheGround();
        joinedLevelsAboveTheGround();
        downwards();
        noNameIfWalledUp();
        severalLevelsOfOneName();
        theStoreysOneToThirty();
    }

    private void oneToSixteenLevels() {
        check.of(TERMS, "The house has 1 to 16 levels, numbered from 0, the lowest first.");
        FloorPanels x = new FloorPanels();
        check.is("the levels at first", x.about(0), 1);
        check.is("the name of level 0 of 1", x.level(0, 1), 0);
        for (int levels = 2; levels <= 16; levels++) {
            check.is("add() to " + (levels - 1), x.add(levels - 1, 0), levels);
        }
        check.is("the levels then", x.about(0), 16);
        check.is("the name of level 0 of 16", x.level(0, 1), 0);
        check.is("the name of level 15 of 16", x.level(15, 1), 60);
        check.raises("level(16, 1) of 16", Check.INDEX, () -> x.level(16, 1));
        check.raises("add() to 16", Check.STATE, () -> x.add(16, 0));
        for (int levels = 15; levels >= 1; levels--) {
            check.is("remove() from " + (levels + 1), x.remove(levels), levels);
        }
        check.raises("level(1, 1) of 1", Check.INDEX, () -> x.level(1, 1));
        check.raises("level(-1, 1) of 1", Check.INDEX, () -> x.level(-1, 1));
        check.raises("remove() from 1", Check.STATE, () -> x.remove(0));
        check.same("the names, the lowest first", Check.names(Check.house("wGh")), "-4 0 1");
    }

    private void kindsZeroToThree() {
        check.of(TERMS, "A level has a kind: 0 whole, 1 half, 2 joined, 3 walled up.");
        int[] names = {4, 1, 2, -1};
        for (int kind = 0; kind <= 3; kind++) {
            FloorPanels x = new FloorPanels();
            check.is("add(1, " + kind + ")", x.add(1, kind), 2);
            check.is("the kind of a level of kind " + kind, x.level(1, 0), kind);
            check.is("the name of a level of kind " + kind, x.level(1, 1), names[kind]);
            FloorPanels y = Check.house("G" + "whjx".charAt(kind));
            check.is("the kind of a loaded level", y.level(1, 0), kind);
            FloorPanels z = Check.house("Gw");
            z.kind(1, kind);
            check.is("the name behind kind(1, " + kind + ")", z.level(1, 1), names[kind]);
        }
        for (int kind : new int[] {-1, 4, Integer.MIN_VALUE, Integer.MAX_VALUE}) {
            check.raises("add(1, " + kind + ")", Check.ARGUMENT, () -> new FloorPanels().add(1, kind));
            check.raises("kind(1, " + kind + ")", Check.ARGUMENT,
                    () -> Check.house("Gw").kind(1, kind));
        }
    }

    private void oneWholeLevelIsTheGround() {
        check.of(TERMS, "One whole level is the ground.");
        FloorPanels x = Check.house("hwGwj");
        check.is("the ground", x.about(1), 2);
        check.is("its kind", x.level(2, 0), 0);
        x.ground(3);
        check.is("another ground", x.about(1), 3);
        check.is("its kind", x.level(3, 0), 0);
        check.is("the kind of the former one", x.level(2, 0), 0);
        check.is("the name of the former one", x.level(2, 1), -4);
        for (int kind = 1; kind <= 3; kind++) {
            int other = kind;
            check.raises("kind(3, " + kind + ") of the ground", Check.STATE, () -> x.kind(3, other));
        }
        check.raises("ground(0) of a half level", Check.STATE, () -> x.ground(0));
        check.raises("ground(4) of a joined level", Check.STATE, () -> x.ground(4));
        check.raises("remove(3) of the ground", Check.STATE, () -> x.remove(3));
    }

    private void atFirstOneLevel() {
        check.of(TERMS, "At first there is this level alone.");
        FloorPanels x = new FloorPanels();
        check.is("the levels", x.about(0), 1);
        check.is("the ground", x.about(1), 0);
        check.is("the kind", x.level(0, 0), 0);
        check.is("the name", x.level(0, 1), 0);
        check.raises("level(1, 0)", Check.INDEX, () -> x.level(1, 0));
    }

    private void theGroundStaysTheSame() {
        check.of(TERMS, "When a level is added or removed, those above it get other numbers;"
                + " the ground is still the same level then.");
        // The ground of this house is the level whose sign says 0, at 2.
        int[] groundBehindAdd = {3, 3, 3, 2, 2, 2};
        String[] signsBehindAdd = {"-1 -8 -4 0 4 8", "-8 -1 -4 0 4 8", "-8 -4 -1 0 4 8",
            "-8 -4 0 -1 4 8", "-8 -4 0 4 -1 8", "-8 -4 0 4 8 -1"};
        for (int l = 0; l <= 5; l++) {
            FloorPanels x = Check.right("wwGww");
            x.add(l, 3);
            check.is("the ground behind add(" + l + ", 3)", x.about(1), groundBehindAdd[l]);
            check.same("the signs behind add(" + l + ", 3)", Check.signs(x), signsBehindAdd[l]);
            check.same("the names behind add(" + l + ", 3)", Check.names(x), signsBehindAdd[l]);
        }
        int[] groundBehindRemove = {1, 1, -1, 2, 2};
        String[] signsBehindRemove = {"-4 0 4 8", "-8 0 4 8", "", "-8 -4 0 8", "-8 -4 0 4"};
        String[] namesBehindRemove = {"-4 0 4 8", "-4 0 4 8", "", "-8 -4 0 4", "-8 -4 0 4"};
        for (int l = 0; l <= 4; l++) {
            if (l != 2) {
                FloorPanels x = Check.right("wwGww");
                x.remove(l);
                check.is("the ground behind remove(" + l + ")", x.about(1), groundBehindRemove[l]);
                check.same("the signs behind remove(" + l + ")", Check.signs(x), signsBehindRemove[l]);
                check.same("the names behind remove(" + l + ")", Check.names(x), namesBehindRemove[l]);
            }
        }
        FloorPanels low = Check.right("Gww");
        low.add(0, 0);
        check.is("the lowest ground behind add(0, 0)", low.about(1), 1);
        low.remove(0);
        check.is("and behind remove(0)", low.about(1), 0);
        FloorPanels high = Check.right("wwwwwwwwwwwwwwG");
        check.is("add(15, 0) to 15", high.add(15, 0), 16);
        check.is("the ground of 16", high.about(1), 14);
        high.remove(15);
        check.is("add(0, 0) to 15", high.add(0, 0), 16);
        check.is("the ground of 16, the highest", high.about(1), 15);
        check.is("what its sign says", high.level(15, 2), 0);
    }

    private void allThatALevelHasGoesWithIt() {
        check.of(TERMS, "those above it get other numbers;");
        String fresh = "sign -1, car -1 1, car -1 1, car -1 1";
        for (int l = 0; l <= 15; l++) {
            FloorPanels x = Check.manifold("wwwwwwwGwwwwwww");
            List<String> levels = told(x);
            x.add(l, 3);
            levels.add(l, fresh);
            check.same("the levels behind add(" + l + ", 3)", told(x).toString(), levels.toString());
        }
        for (int l = 0; l <= 15; l++) {
            if (l != 7) {
                FloorPanels x = Check.manifold("wwwwwwwGwwwwwwww");
                List<String> levels = told(x);
                x.remove(l);
                levels.remove(l);
                check.same("the levels behind remove(" + l + ")", told(x).toString(), levels.toString());
            }
        }
    }

    /** What is said at each level, and which cars serve it. */
    private static List<String> told(FloorPanels x) {
        List<String> levels = new ArrayList<>();
        String[] signs = Check.signs(x).split(" ");
        for (String sign : signs) {
            levels.add("sign " + sign);
        }
        for (int c = 0; c <= 2; c++) {
            String[] buttons = Check.buttons(x, c).split(" ");
            String[] served = Check.served(x, c).split(" ");
            for (int l = 0; l < signs.length; l++) {
                levels.set(l, levels.get(l) + ", car " + buttons[l] + " " + served[l]);
            }
        }
        return levels;
    }

    private void namesAsNumbers() {
        check.of(TERMS, "A name is told as a number: 4 times a storey; with 1 added for a half"
                + " floor, with 2 for a joined one (so -1 is never a name).");
        check.same("names of the storey 1", Check.names(Check.house("Gwhj")), "0 4 5 6");
        check.same("names of the storey 0", Check.names(Check.house("jhGhj")), "2 1 0 1 2");
        check.same("names of the storey -1", Check.names(Check.house("jhwG")), "-2 -3 -4 0");
        check.same("names of the storey -2", Check.names(Check.house("hjwwG")), "-7 -6 -8 -4 0");
        FloorPanels low = Check.house("hwwwwwwwwwwwwwwG");
        check.is("the least name of a half floor", low.level(0, 1), -55);
        check.is("the least name", Check.house("wwwwwwwwwwwwwwwG").level(0, 1), -60);
        FloorPanels high = Check.skipping("Gwwwwwwwwwwwwwwj", 1, 30);
        check.is("the greatest name of a whole level but one", high.level(14, 1), 176);
        check.is("the name of a joined level above it", high.level(15, 1), 178);
        high.kind(15, 0);
        check.is("the greatest name", high.level(15, 1), 180);
        FloorPanels below = Check.house("whjwhjG");
        for (int l = 0; l < 7; l++) {
            check.is("level " + l + " has the name -1", below.level(l, 1) == -1, false);
        }
        check.is("named(-1, 0)", below.named(-1, 0), -1);
    }

    private void theGroundHasStoreyZero() {
        check.of(TERMS, "The ground has the storey 0.");
        check.is("the name of the ground alone", new FloorPanels().level(0, 1), 0);
        check.is("of the lowest level", Check.house("Gwwwwwwwwwwwwwww").level(0, 1), 0);
        check.is("of the highest level", Check.house("wwwwwwwwwwwwwwwG").level(15, 1), 0);
        check.is("of one between others walled up", Check.house("xxGxx").level(2, 1), 0);
        check.is("with storeys that are skipped", Check.skipping("wGw", 1, 30).level(1, 1), 0);
        FloorPanels x = Check.house("whjxGxjhw");
        x.ground(0);
        check.is("of level 0 behind ground(0)", x.level(0, 1), 0);
        x.ground(8);
        check.is("of level 8 behind ground(8)", x.level(8, 1), 0);
    }

    private void theNextStoreyThatIsNotSkipped() {
        check.of(TERMS, "Upwards from there, level by level: a whole level has the next storey,"
                + " from 1 on, that is not skipped;");
        check.same("none is skipped", Check.names(Check.house("Gww")), "0 4 8");
        check.same("1 is skipped", Check.names(Check.house("Gww/1")), "0 8 12");
        check.same("2 is skipped", Check.names(Check.house("Gww/2")), "0 4 12");
        check.same("3 is skipped", Check.names(Check.house("Gww/3")), "0 4 8");
        check.same("1 and 2 are skipped", Check.names(Check.house("Gww/1,2")), "0 12 16");
        check.same("1 and 3 are skipped", Check.names(Check.house("Gww/1,3")), "0 8 16");
        check.same("30 is skipped", Check.names(Check.house("Gww/30")), "0 4 8");
        check.same("1 to 28 are skipped", Check.names(Check.skipping("Gwww", 1, 28)), "0 116 120 124");
        check.same("1 to 29 are skipped", Check.names(Check.skipping("Gwww", 1, 29)), "0 120 124 128");
        check.same("1 to 30 are skipped", Check.names(Check.skipping("Gwww", 1, 30)), "0 124 128 132");
        FloorPanels x = Check.skipping("Gwww", 1, 30);
        x.skip(29, false);
        check.same("all but 29 are skipped", Check.names(x), "0 116 124 128");
        check.same("the storeys of half and joined levels are none of their own",
                Check.names(Check.house("Ghjwhjw/1,3")), "0 1 2 8 9 10 16");
        check.same("nor are those of levels walled up", Check.names(Check.house("Gxwxxw/2")),
                "0 -1 4 -1 -1 12");
        check.same("levels that are highest, of 16", Check.names(Check.skipping("Gwwwwwwwwwwwwwww", 1, 30)),
                "0 124 128 132 136 140 144 148 152 156 160 164 168 172 176 180");
    }

    private void halfLevelsAboveTheGround() {
        check.of(TERMS, "a half level has the storey of the nearest level below it that is not"
                + " walled up;");
        check.same("on the ground", Check.names(Check.house("Gh")), "0 1");
        check.same("on a whole level", Check.names(Check.house("Gwh")), "0 4 5");
        check.same("on a half level", Check.names(Check.house("Gwhh")), "0 4 5 5");
        check.same("on a joined level", Check.names(Check.house("Gwjh")), "0 4 6 5");
        check.same("on one walled up", Check.names(Check.house("Gwxh")), "0 4 -1 5");
        check.same("on many walled up", Check.names(Check.house("Gxxxxxxxxxxxxxxh")),
                "0 -1 -1 -1 -1 -1 -1 -1 -1 -1 -1 -1 -1 -1 -1 1");
        check.same("on a storey behind a skipped one", Check.names(Check.house("Gwxh/1")), "0 8 -1 9");
        FloorPanels x = Check.house("Gwxh");
        x.kind(1, 3);
        check.same("when the level below is walled up", Check.names(x), "0 -1 -1 1");
        x.kind(2, 0);
        check.same("when the wall is gone", Check.names(x), "0 -1 4 5");
    }

    private void joinedLevelsAboveTheGround() {
        check.of(TERMS, "a joined level has the storey of the nearest level below it that is whole"
                + " or joined.");
        check.same("on the ground", Check.names(Check.house("Gj")), "0 2");
        check.same("on a whole level", Check.names(Check.house("Gwj")), "0 4 6");
        check.same("on a joined level", Check.names(Check.house("Gwjj")), "0 4 6 6");
        check.same("on a half level", Check.names(Check.house("Gwhj")), "0 4 5 6");
        check.same("on one walled up", Check.names(Check.house("Gwxj")), "0 4 -1 6");
        check.same("past half levels and walls", Check.names(Check.house("Gwjhxhxj")),
                "0 4 6 5 -1 5 -1 6");
        check.same("on a storey behind a skipped one", Check.names(Check.house("Gwj/1")), "0 8 10");
        check.same("past all to the ground", Check.names(Check.house("Ghhhhhhhhhhhhhhj")),
                "0 1 1 1 1 1 1 1 1 1 1 1 1 1 1 2");
    }

    private void downwards() {
        check.of(TERMS, "Downwards from the ground likewise, with the nearest level above it; whole"
                + " levels have the storeys -1, -2, and so on, of which none is skipped.");
        check.same("whole levels", Check.names(Check.house("wwwG")), "-12 -8 -4 0");
        check.same("15 whole levels", Check.names(Check.house("wwwwwwwwwwwwwwwG")),
                "-60 -56 -52 -48 -44 -40 -36 -32 -28 -24 -20 -16 -12 -8 -4 0");
        check.same("1 and 2 are skipped", Check.names(Check.house("wwGw/1,2")), "-8 -4 0 12");
        check.same("all are skipped", Check.names(Check.skipping("wwGw", 1, 30)), "-8 -4 0 124");
        check.same("half below the ground", Check.names(Check.house("hG")), "1 0");
        check.same("half below a whole level", Check.names(Check.house("hwG")), "-3 -4 0");
        check.same("half below a half level", Check.names(Check.house("hhwG")), "-3 -3 -4 0");
        check.same("half below a joined level", Check.names(Check.house("hjwG")), "-3 -2 -4 0");
        check.same("half below one walled up", Check.names(Check.house("hxwG")), "-3 -1 -4 0");
        check.same("joined below the ground", Check.names(Check.house("jG")), "2 0");
        check.same("joined below a whole level", Check.names(Check.house("jwG")), "-2 -4 0");
        check.same("joined below half levels and walls", Check.names(Check.house("jxhwG")),
                "-2 -1 -3 -4 0");
        check.same("half and joined between whole levels", Check.names(Check.house("wjhwhjG")),
                "-8 -2 -3 -4 1 2 0");
        check.same("a whole level below one walled up", Check.names(Check.house("wxwG")),
                "-8 -1 -4 0");
    }

    private void noNameIfWalledUp() {
        check.of(TERMS, "A level that is walled up has no name.");
        FloorPanels x = Check.house("xwxGxwx");
        for (int l : new int[] {0, 2, 4, 6}) {
            check.is("the name of level " + l, x.level(l, 1), FloorPanels.NONE);
            check.is("how many have it", x.level(l, 4), 0);
        }
        check.is("the levels without a name", x.about(4), 4);
        x.kind(0, 1);
        check.is("the name when the wall is gone", x.level(0, 1), -3);
        x.kind(1, 3);
        check.is("the name of a level walled up later", x.level(1, 1), FloorPanels.NONE);
        check.is("the levels without a name then", x.about(4), 4);
    }

    private void severalLevelsOfOneName() {
        check.of(TERMS, "Several levels can have one name.");
        FloorPanels x = Check.house("Ghhhhhhhhhhhhhhh");
        check.is("15 levels of one name", x.level(15, 4), 15);
        check.is("the first of them", x.named(1, 0), 1);
        check.is("the last of them", x.named(1, 14), 15);
        check.is("one more", x.named(1, 15), FloorPanels.NONE);
        FloorPanels y = Check.house("jhGhj");
        check.is("two joined ones, on both sides of the ground", y.level(0, 4), 2);
        check.is("two half ones, on both sides of the ground", y.level(3, 4), 2);
        check.is("the ground is one", y.level(2, 4), 1);
    }

    private void theStoreysOneToThirty() {
        check.of(TERMS, "The storeys 1 to 30 are skipped or not; at first none is.");
        FloorPanels x = new FloorPanels();
        check.is("the skipped storeys at first", x.about(6), 0);
        for (int storey = 1; storey <= 30; storey++) {
            check.is("isSkipped(" + storey + ") at first", x.isSkipped(storey), false);
            check.is("skip(" + storey + ", true)", x.skip(storey, true), storey);
            check.is("isSkipped(" + storey + ") then", x.isSkipped(storey), true);
        }
        check.is("the skipped storeys then", x.about(6), 30);
        for (int storey : new int[] {0, 31, -1, 32, 33, 62, Integer.MIN_VALUE, Integer.MAX_VALUE}) {
            check.raises("skip(" + storey + ", true)", Check.ARGUMENT, () -> x.skip(storey, true));
            check.raises("skip(" + storey + ", false)", Check.ARGUMENT, () -> x.skip(storey, false));
            check.raises("isSkipped(" + storey + ")", Check.ARGUMENT,
                    () -> x.isSkipped(storey) ? 1 : 0);
        }
        check.is("the skipped storeys at the end", x.about(6), 30);
    }
}
