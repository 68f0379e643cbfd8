/** The actions at their edges: the section "Terms", and the promises 11 to 20. */
final class EdgesOfActions {
    private static final String ADD = "Promise 11: add";
    private static final String REMOVE = "Promise 12: remove";
    private static final String KIND = "Promise 13: kind";
    private static final String GROUND = "Promise 14: ground";
    private static final String SKIP = "Promise 15: skip";
    private static final String SERVE = "Promise 16: serve";
    private static final String SIGN = "Promise 17: putSign";
    private static final String PUT = "Promise 18: putButton";
    private static final String CAR = "Promise 19: putCar";
    private static final String EXCHANGE = "Promise 20: exchange";
    private static final String FULL = "Gwwwwwwwwwwwwwww";
    private static final String[] HOUSES = {"G", "Gh", "xG", "wGw", "hhhGhhh", "jxhGhxj", "wwwwGwwww",
        "whjxGxjhw", "xxwhGwjxx", "hwwwwwwwwwwwwwG", "Gwwwwwwwwwwwwwh", "jhwxjhwGwhjxwhj"};
    private static final int[] NO_LEVELS = {-1, 4, 15, 16, Integer.MIN_VALUE, Integer.MAX_VALUE};
    private static final int[] NO_CARS = {-1, 3, 4, Integer.MIN_VALUE, Integer.MAX_VALUE};
    private static final int[] NO_KINDS = {-1, 4, Integer.MIN_VALUE, Integer.MAX_VALUE};

    private final Check check;

    EdgesOfActions(Check check) {
        this.check = check;
    }

    void run() {
        addsALevel();
        placesToAdd();
        kindsToAdd();
        theLevelsBehindAdd();
        addOutOfRange();
        addNoKind();
        addToSixteen();
        levelsToRemove();
        removesALevel();
        withSignAndButtons();
        theLevelsBehindRemove();
        removeNoLevel();
        removeTheGround();
        changesTheKind();
        levelsToChange();
        kindsToChangeTo();
        thePreviousKind();
        kindOfNoLevel();
        kindOutOfRange();
        kindOfTheGround();
        makesALevelTheGround();
        levelsToBeTheGround();
        thePreviousGround();
        groundNoLevel();
        groundNotWhole();
        changesWhetherAStoreyIsSkipped();
        storeysToSkip();
        skippedThen();
        howManyAreSkipped();
        skipOutOfRange();
        carsThatServe();
        levelsToServe();
        servedThen();
        howManyAreServed();
        serveNothing();
        levelsWithSigns();
        whatTheSignSaid();
        noSuchSign();
        carsOfPutButton();
        levelsOfPutButton();
        whatTheButtonSaid();
        noSuchButton();
        carsToPutRight();
        howManyWereWrong();
        noSuchCar();
        carsOfExchange();
        oneLevelOfExchange();
        perhapsTheSame();
        howManyOfBothAreWrong();
        exchangeNothing();
    }

    private static FloorPanels busy() {
        return Check.busy("whGw");
    }

    /** All of the state must be as that of a house which is loaded like this. */
    private void isLike(String call, FloorPanels x, String text) {
        check.same("the state behind " + call, Check.seen(x), Check.seen(Check.house(text)));
    }

    // ---- Promise 11

    private void addsALevel() {
        check.of(ADD, "Adds a level.");
        for (String house : HOUSES) {
            for (int l = 0; l <= house.length(); l++) {
                for (int kind = 0; kind <= 3; kind++) {
                    FloorPanels x = Check.house(house);
                    x.add(l, kind);
                    isLike("add(" + l + ", " + kind + ") to " + house, x,
                            house.substring(0, l) + "whjx".charAt(kind) + house.substring(l));
                }
            }
        }
    }

    private void placesToAdd() {
        check.of(ADD, "- `l`: the number that it has then, 0 to the number of levels");
        for (int levels = 1; levels <= 15; levels++) {
            String text = FULL.substring(0, levels);
            for (int l = 0; l <= levels; l++) {
                FloorPanels x = Check.house(text);
                check.is("add(" + l + ", 3) to " + levels, x.add(l, 3), levels + 1);
                for (int at = 0; at <= levels; at++) {
                    check.is("the kind of level " + at + " behind add(" + l + ", 3)", x.level(at, 0),
                            at == l ? 3 : 0);
                }
                check.is("the ground behind add(" + l + ", 3)", x.about(1), l == 0 ? 1 : 0);
            }
        }
    }

    private void kindsToAdd() {
        check.of(ADD, "- `kind`: 0 to 3");
        String[] above = {"-4 0 4 8", "-4 0 1 4", "-4 0 2 4", "-4 0 -1 4"};
        String[] below = {"-8 -4 0 4", "-4 1 0 4", "-4 2 0 4", "-4 -1 0 4"};
        for (int kind = 0; kind <= 3; kind++) {
            FloorPanels x = Check.house("wGw");
            check.is("add(2, " + kind + ")", x.add(2, kind), 4);
            check.is("its kind", x.level(2, 0), kind);
            check.same("the names behind add(2, " + kind + ")", Check.names(x), above[kind]);
            FloorPanels y = Check.house("wGw");
            check.is("add(1, " + kind + ")", y.add(1, kind), 4);
            check.is("its kind", y.level(1, 0), kind);
            check.same("the names behind add(1, " + kind + ")", Check.names(y), below[kind]);
        }
    }

    private void theLevelsBehindAdd() {
        check.of(ADD, "Returns the levels then.");
        FloorPanels x = new FloorPanels();
        for (int levels = 2; levels <= 16; levels++) {
            check.is("add(0, 1) to " + (levels - 1), x.add(0, 1), levels);
            check.is("about(0) then", x.about(0), levels);
        }
        check.is("the ground then", x.about(1), 15);
    }

    private void addOutOfRange() {
        check.of(ADD, "Throws `IndexOutOfBoundsException` if l is out of range");
        for (int l : new int[] {-1, 5, 16, 17, Integer.MIN_VALUE, Integer.MAX_VALUE}) {
            for (int kind = -1; kind <= 4; kind++) {
                int other = kind;
                check.refuses("add(" + l + ", " + kind + ") to 4", Check.INDEX, EdgesOfActions::busy,
                        x -> x.add(l, other));
            }
        }
        check.refuses("add(2, 0) to one", Check.INDEX, FloorPanels::new, x -> x.add(2, 0));
        check.refuses("add(-1, 0) to one", Check.INDEX, FloorPanels::new, x -> x.add(-1, 0));
        for (int l : new int[] {-1, 17, Integer.MAX_VALUE}) {
            check.refuses("add(" + l + ", 0) to 16", Check.INDEX, () -> Check.house(FULL),
                    x -> x.add(l, 0));
            check.refuses("add(" + l + ", 4) to 16", Check.INDEX, () -> Check.house(FULL),
                    x -> x.add(l, 4));
        }
    }

    private void addNoKind() {
        check.of(ADD, "Throws `IllegalArgumentException` if kind is out of range");
        for (int kind : NO_KINDS) {
            for (int l = 0; l <= 4; l++) {
                int at = l;
                check.refuses("add(" + l + ", " + kind + ") to 4", Check.ARGUMENT,
                        EdgesOfActions::busy, x -> x.add(at, kind));
            }
            check.refuses("add(16, " + kind + ") to 16", Check.ARGUMENT, () -> Check.house(FULL),
                    x -> x.add(16, kind));
            check.refuses("add(0, " + kind + ") to 16", Check.ARGUMENT, () -> Check.house(FULL),
                    x -> x.add(0, kind));
        }
    }

    private void addToSixteen() {
        check.of(ADD, "Throws `IllegalStateException` if there are 16");
        check.is("add(15, 0) to 15", Check.house(FULL.substring(0, 15)).add(15, 0), 16);
        check.is("add(0, 3) to 15", Check.house("wwwwwwwwwwwwwwG").add(0, 3), 16);
        for (int l = 0; l <= 16; l++) {
            int at = l;
            check.refuses("add(" + l + ", 0) to 16", Check.STATE, () -> Check.busy(FULL),
                    x -> x.add(at, 0));
        }
        for (int kind = 1; kind <= 3; kind++) {
            int other = kind;
            check.refuses("add(16, " + kind + ") to 16", Check.STATE, () -> Check.busy(FULL),
                    x -> x.add(16, other));
        }
        FloorPanels x = Check.house(FULL);
        check.raises("add(16, 0) to 16", Check.STATE, () -> x.add(16, 0));
        check.is("remove(15)", x.remove(15), 15);
        check.is("add(15, 1) to 15 again", x.add(15, 1), 16);
    }

    // ---- Promise 12

    private void levelsToRemove() {
        check.of(REMOVE, "- `l`: level");
        for (int l = 0; l <= 15; l++) {
            if (l != 7) {
                FloorPanels x = Check.right("wwwwwwwGwwwwwwww");
                check.is("remove(" + l + ")", x.remove(l), 15);
                check.is("the ground behind remove(" + l + ")", x.about(1), l < 7 ? 6 : 7);
                for (int at = 0; at < 15; at++) {
                    int former = at < l ? at : at + 1;
                    check.is("the sign at " + at + " behind remove(" + l + ")", x.level(at, 2),
                            4 * (former - 7));
                }
            }
        }
        check.is("remove(0) of two", Check.house("wG").remove(0), 1);
        check.is("remove(1) of two", Check.house("Gw").remove(1), 1);
    }

    private void removesALevel() {
        check.of(REMOVE, "Removes a level, with its sign and buttons.");
        for (String house : HOUSES) {
            for (int l = 0; l < house.length(); l++) {
                if (house.charAt(l) != 'G') {
                    String rest = house.substring(0, l) + house.substring(l + 1);
                    FloorPanels x = Check.house(house);
                    x.remove(l);
                    isLike("remove(" + l + ") of " + house, x, rest);
                    for (int c = 0; c <= 2; c++) {
                        check.is("serve(" + c + ", 0, true) behind it", x.serve(c, 0, true), rest.length());
                    }
                }
            }
            // One by one from above, then from below, to the ground alone.
            FloorPanels y = Check.house(house);
            String left = house;
            while (!left.endsWith("G")) {
                left = left.substring(0, left.length() - 1);
                y.remove(left.length());
            }
            isLike("remove() of all above the ground of " + house, y, left);
            check.is("serve(1, 0, true) then", y.serve(1, 0, true), left.length());
            while (!left.equals("G")) {
                left = left.substring(1);
                y.remove(0);
            }
            check.same("the names at the end", Check.names(y), "0");
        }
    }

    private void withSignAndButtons() {
        check.of(REMOVE, "`int remove(int l) throws IndexOutOfBoundsException, IllegalStateException`:"
                + " Removes a level, with its sign and buttons.");
        FloorPanels x = Check.right("wGww");
        x.serve(0, 2, false);
        x.serve(1, 3, false);
        x.serve(2, 3, false);
        x.remove(2);
        check.same("the signs", Check.signs(x), "-4 0 8");
        for (int c = 0; c <= 2; c++) {
            check.same("the buttons of car " + c, Check.buttons(x, c), "-4 0 8");
            check.same("what car " + c + " serves", Check.served(x, c), c == 0 ? "1 1 1" : "1 1 0");
        }
        check.is("the wrong signs", x.about(2), 1);
        check.is("the wrong buttons", x.about(3), 3);
        x.remove(2);
        check.is("the wrong signs without the highest", x.about(2), 0);
        check.is("the wrong buttons without the highest", x.about(3), 0);
        x.remove(0);
        check.same("the sign of the ground", Check.signs(x), "0");
        x.add(1, 0);
        check.same("the signs with a new level", Check.signs(x), "0 -1");
    }

    private void theLevelsBehindRemove() {
        check.of(REMOVE, "Returns the levels then.");
        FloorPanels x = Check.house("wwwwwwwwwwwwwwwG");
        for (int levels = 15; levels >= 1; levels--) {
            check.is("remove(0) from " + (levels + 1), x.remove(0), levels);
            check.is("about(0) then", x.about(0), levels);
            check.is("about(1) then", x.about(1), levels - 1);
        }
    }

    private void removeNoLevel() {
        check.of(REMOVE, "Throws `IndexOutOfBoundsException` if there is no such level");
        for (int l : NO_LEVELS) {
            check.refuses("remove(" + l + ") of 4", Check.INDEX, EdgesOfActions::busy, x -> x.remove(l));
        }
        check.refuses("remove(1) of one", Check.INDEX, FloorPanels::new, x -> x.remove(1));
        check.refuses("remove(-1) of one", Check.INDEX, FloorPanels::new, x -> x.remove(-1));
        check.refuses("remove(16) of 16", Check.INDEX, () -> Check.busy(FULL), x -> x.remove(16));
    }

    private void removeTheGround() {
        check.of(REMOVE, "Throws `IllegalStateException` if it is the ground");
        check.refuses("remove(0) of one", Check.STATE, FloorPanels::new, x -> x.remove(0));
        check.refuses("remove(2) of the ground", Check.STATE, EdgesOfActions::busy, x -> x.remove(2));
        check.refuses("remove(0) of the lowest", Check.STATE, () -> Check.busy(FULL), x -> x.remove(0));
        check.refuses("remove(15) of the highest", Check.STATE,
                () -> Check.busy("wwwwwwwwwwwwwwwG"), x -> x.remove(15));
        Check.Maker moved = () -> {
            FloorPanels x = Check.house("wGw");
            x.ground(2);
            return x;
        };
        check.refuses("remove(2) of another ground", Check.STATE, moved, x -> x.remove(2));
        check.is("remove(1) of the former ground", moved.make().remove(1), 2);
    }

    // ---- Promise 13

    private void changesTheKind() {
        check.of(KIND, "Changes the kind of a level.");
        for (String house : HOUSES) {
            for (int l = 0; l < house.length(); l++) {
                for (int kind = 0; kind <= 3 && house.charAt(l) != 'G'; kind++) {
                    FloorPanels x = Check.house(house);
                    x.kind(l, kind);
                    isLike("kind(" + l + ", " + kind + ") of " + house, x,
                            house.substring(0, l) + "whjx".charAt(kind) + house.substring(l + 1));
                }
            }
            FloorPanels ground = Check.house(house);
            ground.kind(house.indexOf('G'), 0);
            isLike("kind() of the ground of " + house, ground, house);
        }
    }

    private void levelsToChange() {
        check.of(KIND, "- `l`: level");
        for (int l = 0; l <= 15; l++) {
            if (l != 7) {
                FloorPanels x = Check.house("wwwwwwwGwwwwwwww");
                check.is("kind(" + l + ", 3)", x.kind(l, 3), 0);
                for (int at = 0; at <= 15; at++) {
                    check.is("the kind of level " + at + " behind kind(" + l + ", 3)", x.level(at, 0),
                            at == l ? 3 : 0);
                }
                check.is("the lowest name behind kind(" + l + ", 3)", x.level(0, 1),
                        l == 0 ? -1 : l < 7 ? -24 : -28);
                check.is("the highest name behind kind(" + l + ", 3)", x.level(15, 1),
                        l == 15 ? -1 : l > 7 ? 28 : 32);
            }
        }
    }

    private void kindsToChangeTo() {
        check.of(KIND, "- `kind`: 0 to 3");
        int[] names = {4, 1, 2, -1};
        for (int from = 0; from <= 3; from++) {
            for (int to = 0; to <= 3; to++) {
                FloorPanels x = Check.house("G" + "whjx".charAt(from));
                check.is("kind(1, " + to + ") of kind " + from, x.kind(1, to), from);
                check.is("its kind then", x.level(1, 0), to);
                check.is("its name then", x.level(1, 1), names[to]);
            }
        }
        FloorPanels ground = Check.house("wGw");
        check.is("kind(1, 0) of the ground", ground.kind(1, 0), 0);
        check.is("undo() of it", ground.undo(), 0);
    }

    private void thePreviousKind() {
        check.of(KIND, "Returns the previous one.");
        FloorPanels x = Check.house("Gw");
        int[] kinds = {3, 3, 1, 2, 0, 0, 2, 1, 3, 0};
        int before = 0;
        for (int kind : kinds) {
            check.is("kind(1, " + kind + ")", x.kind(1, kind), before);
            before = kind;
        }
    }

    private void kindOfNoLevel() {
        check.of(KIND, "Throws `IndexOutOfBoundsException` if there is no such level");
        for (int l : NO_LEVELS) {
            for (int kind = -1; kind <= 4; kind++) {
                int other = kind;
                check.refuses("kind(" + l + ", " + kind + ") of 4", Check.INDEX, EdgesOfActions::busy,
                        x -> x.kind(l, other));
            }
        }
        check.refuses("kind(1, 0) of one", Check.INDEX, FloorPanels::new, x -> x.kind(1, 0));
        check.refuses("kind(16, 0) of 16", Check.INDEX, () -> Check.busy(FULL), x -> x.kind(16, 0));
    }

    private void kindOutOfRange() {
        check.of(KIND, "Throws `IllegalArgumentException` if kind is out of range");
        for (int kind : NO_KINDS) {
            for (int l = 0; l <= 3; l++) {
                int at = l;
                // Level 2 is the ground: a kind out of range is named first.
                check.refuses("kind(" + l + ", " + kind + ")", Check.ARGUMENT, EdgesOfActions::busy,
                        x -> x.kind(at, kind));
            }
        }
    }

    private void kindOfTheGround() {
        check.of(KIND, "Throws `IllegalStateException` if it is the ground, and kind is not 0");
        for (int kind = 1; kind <= 3; kind++) {
            int other = kind;
            check.refuses("kind(2, " + kind + ") of the ground", Check.STATE, EdgesOfActions::busy,
                    x -> x.kind(2, other));
            check.refuses("kind(0, " + kind + ") of the only level", Check.STATE, FloorPanels::new,
                    x -> x.kind(0, other));
            check.refuses("kind(15, " + kind + ") of the highest", Check.STATE,
                    () -> Check.busy("wwwwwwwwwwwwwwwG"), x -> x.kind(15, other));
        }
        check.is("kind(2, 0) of the ground", busy().kind(2, 0), 0);
        FloorPanels x = Check.house("wG");
        x.ground(0);
        check.raises("kind(0, 1) of another ground", Check.STATE, () -> x.kind(0, 1));
        check.is("kind(1, 1) of the former ground", x.kind(1, 1), 0);
    }

    // ---- Promise 14

    private void makesALevelTheGround() {
        check.of(GROUND, "Makes a level the ground.");
        for (String house : HOUSES) {
            for (int l = 0; l < house.length(); l++) {
                if (house.charAt(l) == 'G' || house.charAt(l) == 'w') {
                    String without = house.replace('G', 'w');
                    FloorPanels x = Check.house(house);
                    x.ground(l);
                    isLike("ground(" + l + ") of " + house, x,
                            without.substring(0, l) + "G" + without.substring(l + 1));
                }
            }
        }
    }

    private void levelsToBeTheGround() {
        check.of(GROUND, "- `l`: level");
        for (int l = 0; l <= 15; l++) {
            FloorPanels x = Check.house("wwwwwwwGwwwwwwww");
            check.is("ground(" + l + ")", x.ground(l), 7);
            check.is("the ground then", x.about(1), l);
            for (int at = 0; at <= 15; at++) {
                check.is("the name of " + at + " behind ground(" + l + ")", x.level(at, 1), 4 * (at - l));
            }
        }
        FloorPanels skipped = Check.skipping("wwG", 1, 2);
        skipped.ground(0);
        check.same("the names above another ground", Check.names(skipped), "0 12 16");
        FloorPanels mixed = Check.right("whGjxw");
        mixed.ground(5);
        check.same("the names below another ground", Check.names(mixed), "-8 -3 -4 2 -1 0");
        check.same("the signs then", Check.signs(mixed), "-4 1 0 2 -1 4");
    }

    private void thePreviousGround() {
        check.of(GROUND, "Returns the previous ground.");
        FloorPanels x = Check.house("wwG");
        check.is("ground(2), which it is", x.ground(2), 2);
        check.is("ground(0)", x.ground(0), 2);
        check.is("ground(1)", x.ground(1), 0);
        check.is("ground(2)", x.ground(2), 1);
        x.add(0, 0);
        check.is("ground(0) behind add()", x.ground(0), 3);
        x.remove(3);
        check.is("ground(2) behind remove()", x.ground(2), 0);
        check.is("ground(0) of one", new FloorPanels().ground(0), 0);
    }

    private void groundNoLevel() {
        check.of(GROUND, "Throws `IndexOutOfBoundsException` if there is no such level");
        for (int l : NO_LEVELS) {
            check.refuses("ground(" + l + ") of 4", Check.INDEX, EdgesOfActions::busy, x -> x.ground(l));
        }
        check.refuses("ground(1) of one", Check.INDEX, FloorPanels::new, x -> x.ground(1));
        check.refuses("ground(16) of 16", Check.INDEX, () -> Check.busy(FULL), x -> x.ground(16));
        Check.Maker shorter = () -> {
            FloorPanels x = Check.house("Gww");
            x.remove(2);
            return x;
        };
        check.refuses("ground(2) of a level that is gone", Check.INDEX, shorter, x -> x.ground(2));
    }

    private void groundNotWhole() {
        check.of(GROUND, "Throws `IllegalStateException` if it is not whole");
        for (int l : new int[] {0, 1, 2, 4, 5, 6}) {
            check.refuses("ground(" + l + ") of hjxGxjh", Check.STATE, () -> Check.busy("hjxGxjh"),
                    x -> x.ground(l));
        }
        FloorPanels x = Check.house("Gwh");
        x.kind(1, 1);
        check.raises("ground(1) that is half now", Check.STATE, () -> x.ground(1));
        x.kind(2, 0);
        check.is("ground(2) that is whole now", x.ground(2), 0);
    }

    // ---- Promise 15

    private void changesWhetherAStoreyIsSkipped() {
        check.of(SKIP, "Changes whether a storey is skipped.");
        for (String house : HOUSES) {
            for (int storey = 1; storey <= 30; storey++) {
                FloorPanels x = Check.house(house);
                x.skip(storey, true);
                isLike("skip(" + storey + ", true) of " + house, x, house + "/" + storey);
                FloorPanels y = Check.house(house + "/" + storey);
                y.skip(storey, false);
                isLike("skip(" + storey + ", false) of " + house, y, house);
            }
        }
    }

    private void storeysToSkip() {
        check.of(SKIP, "- `storey`: 1 to 30");
        for (int storey = 1; storey <= 30; storey++) {
            FloorPanels x = Check.house("Gw");
            check.is("skip(" + storey + ", true)", x.skip(storey, true), 1);
            check.is("the name of level 1", x.level(1, 1), storey == 1 ? 8 : 4);
            FloorPanels y = Check.skipping("Gw", 1, 30);
            check.is("skip(" + storey + ", false) of all", y.skip(storey, false), 29);
            check.is("the name of level 1 then", y.level(1, 1), 4 * storey);
            check.is("isSkipped(" + storey + ")", y.isSkipped(storey), false);
        }
    }

    private void skippedThen() {
        check.of(SKIP, "- `is`: whether it is skipped then");
        for (int storey : new int[] {1, 2, 29, 30}) {
            FloorPanels x = new FloorPanels();
            for (boolean is : new boolean[] {false, true, true, false, false, true}) {
                check.is("skip(" + storey + ", " + is + ")", x.skip(storey, is), is ? 1 : 0);
                check.is("isSkipped(" + storey + ")", x.isSkipped(storey), is);
            }
        }
    }

    private void howManyAreSkipped() {
        check.of(SKIP, "Returns how many storeys are skipped then.");
        FloorPanels x = new FloorPanels();
        check.is("skip(1, false) of none", x.skip(1, false), 0);
        for (int storey = 30; storey >= 1; storey--) {
            check.is("skip(" + storey + ", true)", x.skip(storey, true), 31 - storey);
            check.is("skip(" + storey + ", true) again", x.skip(storey, true), 31 - storey);
        }
        for (int storey = 30; storey >= 1; storey--) {
            check.is("skip(" + storey + ", false)", x.skip(storey, false), storey - 1);
            check.is("skip(" + storey + ", false) again", x.skip(storey, false), storey - 1);
        }
    }

    private void skipOutOfRange() {
        check.of(SKIP, "Throws `IllegalArgumentException` if storey is out of range");
        for (int storey : new int[] {0, 31, -1, 32, 33, 62, Integer.MIN_VALUE, Integer.MAX_VALUE}) {
            check.refuses("skip(" + storey + ", true)", Check.ARGUMENT, EdgesOfActions::busy,
                    x -> x.skip(storey, true));
            check.refuses("skip(" + storey + ", false)", Check.ARGUMENT,
                    () -> Check.skipping("Gw", 1, 30), x -> x.skip(storey, false));
        }
    }

    // ---- Promise 16

    private void carsThatServe() {
        check.of(SERVE, "- `c`: car");
        for (int c = 0; c <= 2; c++) {
            FloorPanels x = Check.house("wGw");
            check.is("serve(" + c + ", 1, false)", x.serve(c, 1, false), 2);
            for (int other = 0; other <= 2; other++) {
                check.same("what car " + other + " serves behind serve(" + c + ", 1, false)",
                        Check.served(x, other), other == c ? "1 0 1" : "1 1 1");
            }
        }
    }

    private void levelsToServe() {
        check.of(SERVE, "- `l`: level");
        for (int l = 0; l <= 15; l++) {
            FloorPanels x = Check.house("xhwjxhjGhwjxwxhj");
            check.is("serve(1, " + l + ", false)", x.serve(1, l, false), 15);
            for (int at = 0; at <= 15; at++) {
                check.is("car 1 serves " + at, x.button(1, at, 2), at == l ? 0 : 1);
                check.is("car 0 serves " + at, x.button(0, at, 2), 1);
                check.is("car 2 serves " + at, x.button(2, at, 2), 1);
            }
        }
    }

    private void servedThen() {
        check.of(SERVE, "- `is`: whether it serves it then");
        FloorPanels x = Check.right("Gw");
        for (boolean is : new boolean[] {true, false, false, true, true, false}) {
            check.is("serve(2, 1, " + is + ")", x.serve(2, 1, is), is ? 2 : 1);
            check.is("button(2, 1, 2)", x.button(2, 1, 2), is ? 1 : 0);
            check.is("goes(2, 0, 4)", x.goes(2, 0, 4), is ? 1 : -1);
            check.is("its button is right", x.button(2, 1, 1), 1);
        }
    }

    private void howManyAreServed() {
        check.of(SERVE, "Returns how many levels it serves then.");
        FloorPanels x = Check.house(FULL);
        for (int l = 0; l <= 15; l++) {
            check.is("serve(2, " + l + ", false)", x.serve(2, l, false), 15 - l);
            check.is("serve(2, " + l + ", false) again", x.serve(2, l, false), 15 - l);
        }
        for (int l = 0; l <= 15; l++) {
            check.is("serve(2, " + l + ", true)", x.serve(2, l, true), l + 1);
        }
        FloorPanels one = new FloorPanels();
        check.is("serve(0, 0, true) of one", one.serve(0, 0, true), 1);
        check.is("serve(0, 0, false) of one", one.serve(0, 0, false), 0);
        check.is("serve(0, 0, true) of one again", one.serve(0, 0, true), 1);
        FloorPanels walls = Check.house("xGx");
        check.is("serve(0, 0, false) of a wall", walls.serve(0, 0, false), 2);
        check.is("serve(0, 0, true) of a wall", walls.serve(0, 0, true), 3);
        walls.serve(0, 2, false);
        walls.remove(2);
        check.is("serve(0, 1, true) when a level is gone", walls.serve(0, 1, true), 2);
    }

    private void serveNothing() {
        check.of(SERVE, "Throws `IndexOutOfBoundsException` if there is no such car or level");
        for (int c : NO_CARS) {
            check.refuses("serve(" + c + ", 0, false)", Check.INDEX, EdgesOfActions::busy,
                    x -> x.serve(c, 0, false));
            check.refuses("serve(" + c + ", 0, true)", Check.INDEX, EdgesOfActions::busy,
                    x -> x.serve(c, 0, true));
            check.refuses("serve(" + c + ", 4, true)", Check.INDEX, EdgesOfActions::busy,
                    x -> x.serve(c, 4, true));
        }
        for (int l : NO_LEVELS) {
            for (int c = 0; c <= 2; c++) {
                int car = c;
                check.refuses("serve(" + c + ", " + l + ", false)", Check.INDEX, EdgesOfActions::busy,
                        x -> x.serve(car, l, false));
            }
        }
        check.refuses("serve(0, 16, false) of 16", Check.INDEX, () -> Check.busy(FULL),
                x -> x.serve(0, 16, false));
    }

    // ---- Promise 17

    private void levelsWithSigns() {
        check.of(SIGN, "- `l`: level");
        for (int l = 0; l <= 15; l++) {
            FloorPanels x = Check.house("wwwwwwwGwwwwwwww");
            check.is("putSign(" + l + ")", x.putSign(l), -1);
            for (int at = 0; at <= 15; at++) {
                check.is("the sign of " + at + " behind putSign(" + l + ")", x.level(at, 2),
                        at == l ? 4 * (l - 7) : -1);
            }
            check.is("the wrong buttons", x.about(3), 48);
        }
    }

    private void whatTheSignSaid() {
        check.of(SIGN, "Returns what it said before.");
        FloorPanels x = Check.house("Gw");
        check.is("putSign(1) that says nothing", x.putSign(1), -1);
        check.is("putSign(1) that is right", x.putSign(1), 4);
        x.skip(1, true);
        check.is("putSign(1) that is wrong", x.putSign(1), 4);
        check.is("putSign(1) that is right again", x.putSign(1), 8);
        x.kind(1, 3);
        check.is("putSign(1) of a wall", x.putSign(1), 8);
        check.is("putSign(1) of a wall that says nothing", x.putSign(1), -1);
        check.is("what it says", x.level(1, 2), -1);
        check.is("it is right", x.level(1, 3), 1);
        check.is("putSign(0) of the ground", x.putSign(0), -1);
        check.is("putSign(0) again", x.putSign(0), 0);
    }

    private void noSuchSign() {
        check.of(SIGN, "Throws `IndexOutOfBoundsException` if there is no such level");
        for (int l : NO_LEVELS) {
            check.refuses("putSign(" + l + ")", Check.INDEX, EdgesOfActions::busy, x -> x.putSign(l));
        }
        check.refuses("putSign(1) of one", Check.INDEX, FloorPanels::new, x -> x.putSign(1));
        check.refuses("putSign(16) of 16", Check.INDEX, () -> Check.busy(FULL), x -> x.putSign(16));
    }

    // ---- Promise 18

    private void carsOfPutButton() {
        check.of(PUT, "- `c`: car");
        for (int c = 0; c <= 2; c++) {
            FloorPanels x = Check.house("wGw");
            check.is("putButton(" + c + ", 2)", x.putButton(c, 2), -1);
            for (int other = 0; other <= 2; other++) {
                check.same("the buttons of car " + other + " behind putButton(" + c + ", 2)",
                        Check.buttons(x, other), other == c ? "-1 -1 4" : "-1 -1 -1");
            }
            check.is("the wrong signs", x.about(2), 3);
        }
    }

    private void levelsOfPutButton() {
        check.of(PUT, "- `l`: level");
        for (int l = 0; l <= 15; l++) {
            FloorPanels x = Check.house("wwwwwwwGwwwwwwww");
            check.is("putButton(2, " + l + ")", x.putButton(2, l), -1);
            for (int at = 0; at <= 15; at++) {
                check.is("the button of " + at + " behind putButton(2, " + l + ")", x.button(2, at, 0),
                        at == l ? 4 * (l - 7) : -1);
            }
            check.is("the wrong buttons", x.about(3), 47);
        }
    }

    private void whatTheButtonSaid() {
        check.of(PUT, "Returns what it said before.");
        for (int c = 0; c <= 2; c++) {
            FloorPanels x = Check.house("Gw");
            x.serve(c, 1, false);
            check.is("putButton() that says nothing", x.putButton(c, 1), -1);
            check.is("putButton() that is right", x.putButton(c, 1), 4);
            x.skip(1, true);
            check.is("putButton() that is wrong", x.putButton(c, 1), 4);
            check.is("putButton() that is right again", x.putButton(c, 1), 8);
            x.kind(1, 3);
            check.is("putButton() of a wall", x.putButton(c, 1), 8);
            check.is("putButton() of a wall that says nothing", x.putButton(c, 1), -1);
            check.is("it is right", x.button(c, 1, 1), 1);
            check.is("the level is not served", x.button(c, 1, 2), 0);
        }
    }

    private void noSuchButton() {
        check.of(PUT, "Throws `IndexOutOfBoundsException` if there is no such car or level");
        for (int c : NO_CARS) {
            check.refuses("putButton(" + c + ", 0)", Check.INDEX, EdgesOfActions::busy,
                    x -> x.putButton(c, 0));
            check.refuses("putButton(" + c + ", 4)", Check.INDEX, EdgesOfActions::busy,
                    x -> x.putButton(c, 4));
        }
        for (int l : NO_LEVELS) {
            for (int c = 0; c <= 2; c++) {
                int car = c;
                check.refuses("putButton(" + c + ", " + l + ")", Check.INDEX, EdgesOfActions::busy,
                        x -> x.putButton(car, l));
            }
        }
        check.refuses("putButton(2, 16) of 16", Check.INDEX, () -> Check.busy(FULL),
                x -> x.putButton(2, 16));
    }

    // ---- Promise 19

    private void carsToPutRight() {
        check.of(CAR, "- `c`: car");
        for (int c = 0; c <= 2; c++) {
            FloorPanels x = Check.house("wGw");
            check.is("putCar(" + c + ")", x.putCar(c), 3);
            for (int other = 0; other <= 2; other++) {
                check.same("the buttons of car " + other + " behind putCar(" + c + ")",
                        Check.buttons(x, other), other == c ? "-4 0 4" : "-1 -1 -1");
            }
            check.is("the wrong signs", x.about(2), 3);
        }
        FloorPanels full = Check.house("wwwwwwwGwwwwwwww");
        full.putCar(1);
        check.same("the buttons of 16 levels", Check.buttons(full, 1),
                "-28 -24 -20 -16 -12 -8 -4 0 4 8 12 16 20 24 28 32");
    }

    private void howManyWereWrong() {
        check.of(CAR, "Returns how many there were.");
        check.is("putCar(0) of one", new FloorPanels().putCar(0), 1);
        check.is("putCar(2) of 16", Check.house(FULL).putCar(2), 16);
        check.is("putCar(1) of walls", Check.house("xxGx").putCar(1), 1);
        FloorPanels x = Check.right("wGww");
        check.is("putCar(1) of none", x.putCar(1), 0);
        x.exchange(1, 0, 3);
        check.is("putCar(1) of two", x.putCar(1), 2);
        x.skip(1, true);
        x.serve(1, 2, false);
        x.serve(1, 3, false);
        check.is("putCar(1) of two that are not served", x.putCar(1), 2);
        x.kind(3, 3);
        check.is("putCar(1) of a wall that says a name", x.putCar(1), 1);
        check.is("putCar(1) of none again", x.putCar(1), 0);
        check.same("the buttons then", Check.buttons(x, 1), "-4 0 8 -1");
    }

    private void noSuchCar() {
        check.of(CAR, "Throws `IndexOutOfBoundsException` if there is no such car");
        for (int c : NO_CARS) {
            check.refuses("putCar(" + c + ")", Check.INDEX, EdgesOfActions::busy, x -> x.putCar(c));
        }
    }

    // ---- Promise 20

    private void carsOfExchange() {
        check.of(EXCHANGE, "- `c`: car");
        for (int c = 0; c <= 2; c++) {
            FloorPanels x = Check.right("wGw");
            check.is("exchange(" + c + ", 0, 2)", x.exchange(c, 0, 2), 2);
            for (int other = 0; other <= 2; other++) {
                check.same("the buttons of car " + other + " behind exchange(" + c + ", 0, 2)",
                        Check.buttons(x, other), other == c ? "4 0 -4" : "-4 0 4");
            }
            check.same("the signs", Check.signs(x), "-4 0 4");
        }
    }

    private void oneLevelOfExchange() {
        check.of(EXCHANGE, "- `l`: level");
        for (int l = 1; l <= 15; l++) {
            FloorPanels x = Check.right("wwwwwwwGwwwwwwww");
            check.is("exchange(0, " + l + ", 0)", x.exchange(0, l, 0), 2);
            check.is("the button of 0 then", x.button(0, 0, 0), 4 * (l - 7));
            check.is("the button of " + l + " then", x.button(0, l, 0), -28);
            check.is("the wrong buttons then", x.about(3), 2);
            check.is("exchange(0, 0, " + l + ") back", x.exchange(0, 0, l), 0);
            check.is("the wrong buttons at the end", x.about(3), 0);
        }
    }

    private void perhapsTheSame() {
        check.of(EXCHANGE, "- `m`: level (perhaps the same)");
        for (int l = 0; l <= 15; l++) {
            FloorPanels x = Check.right("wwwwwwwGwwwwwwww");
            check.is("exchange(1, " + l + ", " + l + ")", x.exchange(1, l, l), 0);
            check.is("the wrong buttons then", x.about(3), 0);
            check.is("its button", x.button(1, l, 0), 4 * (l - 7));
            int other = 15 - l;
            check.is("exchange(1, " + l + ", " + other + ")", x.exchange(1, l, other), 2);
            check.is("the button of " + other, x.button(1, other, 0), 4 * (l - 7));
            check.is("the button of " + l, x.button(1, l, 0), 4 * (other - 7));
        }
    }

    private void howManyOfBothAreWrong() {
        check.of(EXCHANGE, "Returns how many of both are wrong then (0 or 1, if they are the same).");
        FloorPanels x = Check.house("hGhw");
        check.is("exchange(0, 0, 0), which says nothing", x.exchange(0, 0, 0), 1);
        check.is("exchange(0, 0, 2), which say nothing", x.exchange(0, 0, 2), 2);
        x.putCar(0);
        check.is("exchange(0, 0, 2) of one name", x.exchange(0, 0, 2), 0);
        check.is("exchange(0, 1, 1), which is right", x.exchange(0, 1, 1), 0);
        check.is("exchange(0, 1, 3)", x.exchange(0, 1, 3), 2);
        check.is("exchange(0, 1, 1), which is wrong", x.exchange(0, 1, 1), 1);
        check.is("exchange(0, 3, 1)", x.exchange(0, 3, 1), 0);
        // One of both is right then: the empty one is that of a wall, or one says its name.
        FloorPanels y = Check.house("xGw");
        y.putButton(0, 2);
        check.is("exchange(0, 0, 2) with a wall", y.exchange(0, 0, 2), 2);
        check.is("exchange(0, 2, 0) back", y.exchange(0, 2, 0), 0);
        check.is("exchange(0, 0, 1), both say nothing", y.exchange(0, 0, 1), 1);
        check.is("exchange(0, 1, 0), both say nothing", y.exchange(0, 1, 0), 1);
        FloorPanels walls = Check.house("xxG");
        check.is("exchange(2, 0, 1) of walls", walls.exchange(2, 0, 1), 0);
        FloorPanels one = new FloorPanels();
        check.is("exchange(2, 0, 0) of one", one.exchange(2, 0, 0), 1);
        one.putCar(2);
        check.is("exchange(2, 0, 0) of one that is right", one.exchange(2, 0, 0), 0);
    }

    private void exchangeNothing() {
        check.of(EXCHANGE, "Throws `IndexOutOfBoundsException` if there is no such car or level");
        for (int c : NO_CARS) {
            check.refuses("exchange(" + c + ", 0, 3)", Check.INDEX, EdgesOfActions::busy,
                    x -> x.exchange(c, 0, 3));
            check.refuses("exchange(" + c + ", 4, 4)", Check.INDEX, EdgesOfActions::busy,
                    x -> x.exchange(c, 4, 4));
        }
        for (int l : NO_LEVELS) {
            check.refuses("exchange(0, " + l + ", 0)", Check.INDEX, EdgesOfActions::busy,
                    x -> x.exchange(0, l, 0));
            check.refuses("exchange(0, 0, " + l + ")", Check.INDEX, EdgesOfActions::busy,
                    x -> x.exchange(0, 0, l));
            check.refuses("exchange(2, " + l + ", " + l + ")", Check.INDEX, EdgesOfActions::busy,
                    x -> x.exchange(2, l, l));
        }
        check.refuses("exchange(1, 15, 16) of 16", Check.INDEX, () -> Check.busy(FULL),
                x -> x.exchange(1, 15, 16));
        check.refuses("exchange(1, 16, 15) of 16", Check.INDEX, () -> Check.busy(FULL),
                x -> x.exchange(1, 16, 15));
    }
}
