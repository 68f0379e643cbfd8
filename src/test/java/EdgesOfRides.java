/** Rides, and what would be, at their edges: the promises 22 to 28. */
final class EdgesOfRides {
    private static final String GOES = "Promise 22: goes";
    private static final String ASTRAY = "Promise 23: astray";
    private static final String RIDES = "Promise 24: rides";
    private static final String IF_SKIPPED = "Promise 25: ifSkipped";
    private static final String BEST = "Promise 26: bestSkip";
    private static final String IF_ADDED = "Promise 27: ifAdded";
    private static final String WORST = "Promise 28: worst";
    private static final String FULL = "Gwwwwwwwwwwwwwww";
    private static final String[] HOUSES = {"G", "Ghhhhh", "hhhGwwh/2", "wwhGwwjxw/1,4", "jxhwwGhwxjw",
        "Gwwwwwwwwwwwwwh/3,5,30", "jhwxjhwGwhjxwhj"};
    private static final int[] NO_LEVELS = {-1, 4, 15, 16, Integer.MIN_VALUE, Integer.MAX_VALUE};
    private static final int[] NO_CARS = {-1, 3, 4, Integer.MIN_VALUE, Integer.MAX_VALUE};

    private final Check check;

    EdgesOfRides(Check check) {
        this.check = check;
    }

    void run() {
        carsOfGoes();
        whereARideCanBegin();
        anyNumberIsAskedFor();
        noSuchLevelToGoTo();
        goesNowhere();
        carsOfAstray();
        pairsThatLeadAstray();
        alsoIfItSaysNothing();
        astrayInNoCar();
        ridesFrom();
        ridesTo();
        theFewestRides();
        bothAreTheSame();
        noRides();
        ridesOfNoLevel();
        storeysOfIfSkipped();
        whatWouldBeWrong();
        asBehindSkip();
        ifSkippedOutOfRange();
        theLowestOfSeveral();
        lessThanNow();
        noneIsBetter();
        placesOfIfAdded();
        kindsOfIfAdded();
        itsOwnOnesLeftOut();
        asBehindAdd();
        ifAddedOutOfRange();
        ifAddedNoKind();
        ifAddedToSixteen();
        theWorstOfSeveral();
    }

    private static FloorPanels busy() {
        return Check.busy("whGw");
    }

    // ---- Promise 22

    private void carsOfGoes() {
        check.of(GOES, "- `c`: car");
        for (int c = 0; c <= 2; c++) {
            FloorPanels x = Check.house("wGw");
            x.putCar(c);
            for (int other = 0; other <= 2; other++) {
                check.is("goes(" + other + ", 0, 4) when car " + c + " is right", x.goes(other, 0, 4),
                        other == c ? 2 : -1);
            }
        }
    }

    private void whereARideCanBegin() {
        check.of(GOES, "- `from`: level");
        FloorPanels x = Check.right("wwwwwwwGwwwwwwww");
        for (int from = 0; from <= 15; from++) {
            for (int to = 0; to <= 15; to++) {
                check.is("goes(1, " + from + ", " + 4 * (to - 7) + ")", x.goes(1, from, 4 * (to - 7)),
                        from == to ? -1 : to);
            }
        }
    }

    private void anyNumberIsAskedFor() {
        check.of(GOES, "- `name`: any number that is asked for");
        int[] names = {-1, -2, 1, 2, 3, 8, 120, 255, Integer.MIN_VALUE, Integer.MAX_VALUE};
        for (int name : names) {
            check.onlyAnswers("goes(0, 1, " + name + ")", -1, () -> Check.right("wGwx"),
                    x -> x.goes(0, 1, name));
            check.is("goes(0, 1, " + name + ") where all say nothing",
                    Check.house("wGwx").goes(0, 1, name), -1);
        }
        check.is("goes(2, 0, 180), the greatest name", greatest().goes(2, 0, 180), 15);
        check.is("goes(2, 15, -60), the least name",
                Check.right("wwwwwwwwwwwwwwwG").goes(2, 15, -60), 0);
    }

    private static FloorPanels greatest() {
        FloorPanels x = Check.skipping(FULL, 1, 30);
        Check.putAllRight(x);
        return x;
    }

    private void noSuchLevelToGoTo() {
        check.of(GOES, "Returns the level to which it goes; NONE if it cannot begin, or there is no such"
                + " level.");
        FloorPanels x = Check.right("hGhxw");
        check.is("goes(0, 4, 1), the lowest", x.goes(0, 4, 1), 0);
        check.is("goes(0, 0, 1), the lowest other one", x.goes(0, 0, 1), 2);
        check.is("goes(0, 2, 1), the other one", x.goes(0, 2, 1), 0);
        check.is("goes(0, 1, 0), to itself alone", x.goes(0, 1, 0), -1);
        check.is("goes(0, 3, 4) from a wall", x.goes(0, 3, 4), -1);
        check.is("goes(0, 3, -1) from a wall", x.goes(0, 3, -1), -1);
        x.serve(0, 4, false);
        check.is("goes(0, 4, 1) from a level not served", x.goes(0, 4, 1), -1);
        check.is("goes(0, 0, 4) to a level not served", x.goes(0, 0, 4), -1);
        check.is("goes(1, 0, 4) in another car", x.goes(1, 0, 4), 4);
        x.kind(4, 3);
        check.is("goes(1, 0, 4) to a wall whose button says it", x.goes(1, 0, 4), -1);
        check.is("goes(1, 4, 1) from it", x.goes(1, 4, 1), -1);
        FloorPanels one = new FloorPanels();
        one.putCar(0);
        check.is("goes(0, 0, 0) of one level", one.goes(0, 0, 0), -1);
        check.is("goes(0, 0, -1) of one level", one.goes(0, 0, -1), -1);
        FloorPanels gone = Check.right("Gww");
        gone.remove(2);
        check.is("goes(0, 0, 8) to a level that is gone", gone.goes(0, 0, 8), -1);
    }

    private void goesNowhere() {
        check.of(GOES, "Throws `IndexOutOfBoundsException` if there is no such car or level");
        for (int c : NO_CARS) {
            check.refuses("goes(" + c + ", 0, 0)", Check.INDEX, EdgesOfRides::busy, x -> x.goes(c, 0, 0));
            check.refuses("goes(" + c + ", 4, -1)", Check.INDEX, EdgesOfRides::busy,
                    x -> x.goes(c, 4, -1));
        }
        for (int l : NO_LEVELS) {
            for (int c = 0; c <= 2; c++) {
                int car = c;
                check.refuses("goes(" + c + ", " + l + ", 0)", Check.INDEX, EdgesOfRides::busy,
                        x -> x.goes(car, l, 0));
                check.refuses("goes(" + c + ", " + l + ", -1)", Check.INDEX, EdgesOfRides::busy,
                        x -> x.goes(car, l, -1));
            }
        }
        check.refuses("goes(0, 16, 0) of 16", Check.INDEX, () -> Check.busy(FULL), x -> x.goes(0, 16, 0));
        check.refuses("goes(0, 1, 0) of one", Check.INDEX, FloorPanels::new, x -> x.goes(0, 1, 0));
    }

    // ---- Promise 23

    private void carsOfAstray() {
        check.of(ASTRAY, "- `c`: car");
        for (int c = 0; c <= 2; c++) {
            FloorPanels x = Check.house("wGw");
            x.putCar(c);
            for (int other = 0; other <= 2; other++) {
                check.is("astray(" + other + ") when car " + c + " is right", x.astray(other),
                        other == c ? 0 : 6);
            }
        }
    }

    private void pairsThatLeadAstray() {
        check.of(ASTRAY, "Returns how many pairs there are of different levels, both of which have a name"
                + " and are served by the car, such that a ride from the first one, when what the button"
                + " of the second one says is asked for, does not go to the second one");
        check.onlyAnswers("astray(0) of one level", 0, FloorPanels::new, x -> x.astray(0));
        check.onlyAnswers("astray(0) when all are right", 0, () -> Check.right(FULL), x -> x.astray(0));
        check.onlyAnswers("astray(2) of 16 of which none says anything", 240, () -> Check.house(FULL),
                x -> x.astray(2));
        // From 0 to 2 and 3, from 1 to 3, from 2 to 3, from 3 to 2.
        check.is("astray(2) of three of one name", Check.right("Ghhh").astray(2), 5);
        FloorPanels x = Check.right("wGw");
        x.exchange(0, 0, 2);
        check.is("astray(0) when two are exchanged", x.astray(0), 0);
        FloorPanels y = Check.house("wGwx");
        check.is("astray(0) with a wall", y.astray(0), 6);
        y.serve(0, 0, false);
        check.is("astray(0) without one level", y.astray(0), 2);
        y.serve(0, 1, false);
        check.is("astray(0) of one level that is served", y.astray(0), 0);
        y.serve(0, 2, false);
        check.is("astray(0) of none that is served", y.astray(0), 0);
        check.is("astray(1) of a car that serves all", y.astray(1), 6);
        // A wall whose button says the name of another level does not lead astray.
        FloorPanels wall = Check.right("wGw");
        wall.exchange(1, 0, 2);
        wall.kind(0, 3);
        wall.putButton(1, 2);
        check.is("astray(1) with a wall that says a name", wall.astray(1), 0);
        FloorPanels unserved = Check.right("hGh");
        check.is("astray(1) of two of one name", unserved.astray(1), 1);
        unserved.serve(1, 0, false);
        check.is("astray(1) without one of them", unserved.astray(1), 0);
    }

    private void alsoIfItSaysNothing() {
        check.of(ASTRAY, "(also if that says nothing).");
        FloorPanels x = Check.right("wGw");
        x.add(3, 0);
        check.is("astray(0) with one that says nothing", x.astray(0), 3);
        x.add(4, 0);
        check.is("astray(0) with two that say nothing", x.astray(0), 8);
        x.add(5, 3);
        check.is("astray(0) with a wall too", x.astray(0), 8);
        x.serve(0, 4, false);
        check.is("astray(0) with one of them not served", x.astray(0), 3);
        check.is("astray(0) of two that say nothing", Check.house("Gw").astray(0), 2);
    }

    private void astrayInNoCar() {
        check.of(ASTRAY, "Throws `IndexOutOfBoundsException` if there is no such car");
        for (int c : NO_CARS) {
            check.refuses("astray(" + c + ")", Check.INDEX, EdgesOfRides::busy, x -> x.astray(c));
        }
    }

    // ---- Promise 24

    private void ridesFrom() {
        check.of(RIDES, "- `from`: level");
        FloorPanels x = Check.house("wwwwwwwGwwwwwwww");
        x.putButton(2, 15);
        for (int from = 0; from <= 15; from++) {
            check.is("rides(" + from + ", 15)", x.rides(from, 15), from == 15 ? 0 : 1);
            check.is("rides(" + from + ", 0)", x.rides(from, 0), from == 0 ? 0 : -1);
        }
    }

    private void ridesTo() {
        check.of(RIDES, "- `to`: level");
        FloorPanels x = Check.house("wwwwwwwGwwwwwwww");
        x.putCar(1);
        x.exchange(1, 0, 15);
        for (int to = 0; to <= 15; to++) {
            check.is("rides(0, " + to + ")", x.rides(0, to), to == 0 ? 0 : 1);
            check.is("rides(15, " + to + ")", x.rides(15, to), to == 15 ? 0 : 1);
        }
    }

    /** In one car two rides lead further at most, so six are the most that one can need. */
    private void theFewestRides() {
        check.of(RIDES, "Returns the fewest rides, one after the other, in any cars, by any names, from the"
                + " one to the other,");
        FloorPanels x = Check.house("Ghhhhhh");
        for (int c = 0; c <= 2; c++) {
            for (int l = 0; l <= 6; l++) {
                x.serve(c, l, l >= 2 * c && l <= 2 * c + 2);
            }
            x.putButton(c, 2 * c + 1);
            x.putButton(c, 2 * c + 2);
        }
        for (int to = 0; to <= 6; to++) {
            check.is("rides(0, " + to + ")", x.rides(0, to), to);
        }
        check.is("rides(2, 6)", x.rides(2, 6), 4);
        check.is("rides(2, 1)", x.rides(2, 1), 1);
        check.is("rides(6, 5)", x.rides(6, 5), 1);
        check.is("rides(6, 4)", x.rides(6, 4), -1);
        check.is("rides(1, 0)", x.rides(1, 0), -1);
        x.serve(2, 0, true);
        check.is("rides(0, 6) with a shorter way", x.rides(0, 6), 2);
        FloorPanels meet = Check.right("wGwww");
        for (int l = 0; l <= 4; l++) {
            meet.serve(0, l, l <= 1);
            meet.serve(1, l, l >= 1 && l <= 3);
            meet.serve(2, l, l >= 3);
        }
        check.is("rides(0, 4) in three cars", meet.rides(0, 4), 3);
        check.is("rides(4, 0) in three cars", meet.rides(4, 0), 3);
        check.is("rides(1, 4) in two cars", meet.rides(1, 4), 2);
        check.is("rides(1, 2) in one car", meet.rides(1, 2), 1);
        meet.serve(0, 3, true);
        check.is("rides(0, 4) in two cars", meet.rides(0, 4), 2);
        // By the name that a wrong button says.
        FloorPanels wrong = Check.house("wGw");
        wrong.putButton(0, 1);
        wrong.exchange(0, 1, 2);
        check.is("rides(0, 2) by a wrong button", wrong.rides(0, 2), 1);
        check.is("rides(0, 1), to which no button leads", wrong.rides(0, 1), -1);
    }

    private void bothAreTheSame() {
        check.of(RIDES, "0 if both are the same;");
        check.is("rides(0, 0) of one level", new FloorPanels().rides(0, 0), 0);
        FloorPanels x = Check.house("wwwwwwwGwwwwwwww");
        for (int l = 0; l <= 15; l++) {
            check.is("rides(" + l + ", " + l + ")", x.rides(l, l), 0);
        }
        FloorPanels wall = Check.house("xG");
        check.is("rides(0, 0) of a wall", wall.rides(0, 0), 0);
        for (int c = 0; c <= 2; c++) {
            wall.serve(c, 1, false);
        }
        check.is("rides(1, 1) of a level that is not served", wall.rides(1, 1), 0);
    }

    private void noRides() {
        check.of(RIDES, "NONE if there are none.");
        FloorPanels x = Check.house("wGxw");
        check.is("rides(0, 1) when no button says anything", x.rides(0, 1), -1);
        Check.putAllRight(x);
        check.is("rides(0, 2) to a wall", x.rides(0, 2), -1);
        check.is("rides(2, 0) from a wall", x.rides(2, 0), -1);
        check.is("rides(0, 3) past a wall", x.rides(0, 3), 1);
        x.serve(0, 3, false);
        x.serve(1, 3, false);
        check.is("rides(0, 3) in the last car", x.rides(0, 3), 1);
        x.serve(2, 3, false);
        check.is("rides(0, 3) to a level not served", x.rides(0, 3), -1);
        check.is("rides(3, 0) from a level not served", x.rides(3, 0), -1);
        FloorPanels hidden = Check.right("Ghhh");
        check.is("rides(0, 1) to the lowest of a name", hidden.rides(0, 1), 1);
        check.is("rides(0, 2) to the second", hidden.rides(0, 2), 2);
        check.is("rides(0, 3) to the third, which is hidden", hidden.rides(0, 3), -1);
        FloorPanels apart = Check.right("wGww");
        for (int l = 0; l <= 3; l++) {
            apart.serve(0, l, l <= 1);
            apart.serve(1, l, l >= 2);
            apart.serve(2, l, false);
        }
        check.is("rides(0, 3) where cars do not meet", apart.rides(0, 3), -1);
        check.is("rides(2, 3) where they do", apart.rides(2, 3), 1);
    }

    private void ridesOfNoLevel() {
        check.of(RIDES, "Throws `IndexOutOfBoundsException` if there is no such level");
        for (int l : NO_LEVELS) {
            check.refuses("rides(" + l + ", 0)", Check.INDEX, EdgesOfRides::busy, x -> x.rides(l, 0));
            check.refuses("rides(0, " + l + ")", Check.INDEX, EdgesOfRides::busy, x -> x.rides(0, l));
            check.refuses("rides(3, " + l + ")", Check.INDEX, EdgesOfRides::busy, x -> x.rides(3, l));
            check.refuses("rides(" + l + ", " + l + ")", Check.INDEX, EdgesOfRides::busy,
                    x -> x.rides(l, l));
        }
        check.refuses("rides(16, 0) of 16", Check.INDEX, () -> Check.busy(FULL), x -> x.rides(16, 0));
        check.refuses("rides(0, 16) of 16", Check.INDEX, () -> Check.busy(FULL), x -> x.rides(0, 16));
        check.refuses("rides(0, 1) of one", Check.INDEX, FloorPanels::new, x -> x.rides(0, 1));
    }

    // ---- Promise 25

    private void storeysOfIfSkipped() {
        check.of(IF_SKIPPED, "- `storey`: 1 to 30");
        FloorPanels x = Check.right("Gwww");
        for (int storey = 1; storey <= 30; storey++) {
            check.is("ifSkipped(" + storey + ")", x.ifSkipped(storey), storey <= 3 ? 4 * (4 - storey) : 0);
        }
        FloorPanels y = Check.skipping("Gw", 1, 30);
        check.is("ifSkipped(1) of a new house", y.ifSkipped(1), 8);
        Check.putAllRight(y);
        for (int storey = 1; storey <= 30; storey++) {
            check.is("ifSkipped(" + storey + ") of all", y.ifSkipped(storey), 4);
        }
        y.skip(30, false);
        Check.putAllRight(y);
        check.is("ifSkipped(30), which is used", y.ifSkipped(30), 4);
        check.is("ifSkipped(29), which is skipped", y.ifSkipped(29), 4);
    }

    private void whatWouldBeWrong() {
        check.of(IF_SKIPPED, "Returns the signs and buttons, together, that would be wrong if it was"
                + " skipped, in case it is not, or was not skipped, in case it is.");
        check.onlyAnswers("ifSkipped(1) of 16 of which none says anything", 64, () -> Check.house(FULL),
                x -> x.ifSkipped(1));
        check.onlyAnswers("ifSkipped(1) of 16 that are right", 60, () -> Check.right(FULL),
                x -> x.ifSkipped(1));
        check.onlyAnswers("ifSkipped(15) of 16 that are right", 4, () -> Check.right(FULL),
                x -> x.ifSkipped(15));
        check.onlyAnswers("ifSkipped(16) of 16 that are right", 0, () -> Check.right(FULL),
                x -> x.ifSkipped(16));
        check.onlyAnswers("ifSkipped(5), which is", 4, () -> Check.right("Gwwwww/5"),
                x -> x.ifSkipped(5));
        FloorPanels below = Check.right("wwG");
        for (int storey = 1; storey <= 30; storey++) {
            check.is("ifSkipped(" + storey + ") of levels below", below.ifSkipped(storey), 0);
        }
        FloorPanels said = Check.right("Gw");
        said.skip(1, true);
        check.is("ifSkipped(1), which was not when all was put", said.ifSkipped(1), 0);
        check.is("ifSkipped(2), which would be wrong as now", said.ifSkipped(2), 4);
        said.putSign(1);
        check.is("ifSkipped(1) with one sign for it", said.ifSkipped(1), 1);
        said.putCar(0);
        check.is("ifSkipped(1) with one sign and one button for it", said.ifSkipped(1), 2);
        check.is("isSkipped(1) as before", said.isSkipped(1), true);
    }

    private void asBehindSkip() {
        check.of(IF_SKIPPED, "Tells what another numbering would make wrong.");
        for (String house : HOUSES) {
            int wrongNow = wrong(Check.manifold(house));
            int best = -1;
            int least = wrongNow;
            for (int storey = 1; storey <= 30; storey++) {
                FloorPanels x = Check.manifold(house);
                int answer = x.ifSkipped(storey);
                x.skip(storey, !x.isSkipped(storey));
                check.is("ifSkipped(" + storey + ") of " + house, answer, wrong(x));
                if (answer < least) {
                    least = answer;
                    best = storey;
                }
            }
            check.is("bestSkip() of " + house, Check.manifold(house).bestSkip(), best);
        }
    }

    private static int wrong(FloorPanels x) {
        return x.about(2) + x.about(3);
    }

    private void ifSkippedOutOfRange() {
        check.of(IF_SKIPPED, "Throws `IllegalArgumentException` if storey is out of range");
        for (int storey : new int[] {0, 31, -1, 32, 33, 62, Integer.MIN_VALUE, Integer.MAX_VALUE}) {
            check.refuses("ifSkipped(" + storey + ")", Check.ARGUMENT, EdgesOfRides::busy,
                    x -> x.ifSkipped(storey));
            check.refuses("ifSkipped(" + storey + ") when all are", Check.ARGUMENT,
                    () -> Check.skipping("Gw", 1, 30), x -> x.ifSkipped(storey));
        }
    }

    // ---- Promise 26

    private void theLowestOfSeveral() {
        check.of(BEST, "Returns the storey with the least ifSkipped(), of several the lowest,");
        // What says 30 is at 31 now: any of 1 to 29, not skipped any more, puts it right.
        Check.Maker several = () -> {
            FloorPanels x = Check.skipping("Gw", 1, 29);
            Check.putAllRight(x);
            x.add(1, 0);
            return x;
        };
        check.onlyAnswers("bestSkip() of 29 that are alike", 1, several, x -> x.bestSkip());
        for (int storey = 1; storey <= 30; storey++) {
            FloorPanels x = Check.skipping("Gw", 1, storey);
            Check.putAllRight(x);
            x.skip(storey, false);
            check.is("bestSkip() behind skip(" + storey + ", false)", x.bestSkip(), storey);
        }
        for (int storey = 1; storey <= 15; storey++) {
            FloorPanels x = Check.right(FULL);
            x.skip(storey, true);
            check.is("bestSkip() behind skip(" + storey + ", true)", x.bestSkip(), storey);
        }
        // Level 3 is right if 1, 2 or 3 is skipped, level 1 if 1 is not.
        FloorPanels y = Check.house("Gwww/2");
        y.putSign(3);
        y.putSign(1);
        y.skip(2, false);
        int[] due = {15, 14, 14, 15};
        for (int storey = 1; storey <= 4; storey++) {
            check.is("ifSkipped(" + storey + ")", y.ifSkipped(storey), due[storey - 1]);
        }
        check.is("bestSkip() of two that are alike", y.bestSkip(), 2);
        y.putButton(0, 2);
        check.is("ifSkipped(2) with one button", y.ifSkipped(2), 14);
        check.is("ifSkipped(3) with one button", y.ifSkipped(3), 13);
        check.is("bestSkip() behind it", y.bestSkip(), 3);
    }

    private void lessThanNow() {
        check.of(BEST, "if that is less than the signs and buttons that are wrong now;");
        FloorPanels x = Check.right("Gw");
        x.skip(1, true);
        check.is("bestSkip() when 4 are wrong now, and 0 would be", x.bestSkip(), 1);
        x.putSign(1);
        x.putCar(0);
        check.is("bestSkip() when 2 are wrong now, and 2 would be", x.bestSkip(), -1);
        x.putCar(1);
        check.is("bestSkip() when 1 is wrong now, and 3 would be", x.bestSkip(), -1);
        FloorPanels y = Check.right("Gw");
        y.skip(1, true);
        y.putSign(1);
        check.is("bestSkip() when 3 are wrong now, and 1 would be", y.bestSkip(), 1);
    }

    private void noneIsBetter() {
        check.of(BEST, "NONE if there is none.");
        check.onlyAnswers("bestSkip() of a new object", -1, FloorPanels::new, x -> x.bestSkip());
        check.onlyAnswers("bestSkip() of 16 of which none says anything", -1, () -> Check.house(FULL),
                x -> x.bestSkip());
        check.onlyAnswers("bestSkip() of 16 that are right", -1, () -> Check.right(FULL),
                x -> x.bestSkip());
        check.onlyAnswers("bestSkip() of levels below", -1, () -> Check.busy("wwwG"), x -> x.bestSkip());
        // Two storeys would have to be skipped for the only one that is right.
        FloorPanels two = Check.right("Gw/1,2");
        two.skip(1, false);
        two.skip(2, false);
        check.is("bestSkip() where two are needed", two.bestSkip(), -1);
        FloorPanels all = Check.skipping("Gw", 1, 30);
        check.is("bestSkip() when all are skipped", all.bestSkip(), -1);
    }

    // ---- Promise 27

    private void placesOfIfAdded() {
        check.of(IF_ADDED, "- `l`: 0 to the number of levels");
        FloorPanels x = Check.right("wwwwwwwGwwwwwww");
        for (int l = 0; l <= 15; l++) {
            check.is("ifAdded(" + l + ", 0)", x.ifAdded(l, 0), l <= 7 ? 4 * l : 4 * (15 - l));
        }
        FloorPanels one = new FloorPanels();
        check.is("ifAdded(0, 0) of one", one.ifAdded(0, 0), 4);
        check.is("ifAdded(1, 0) of one", one.ifAdded(1, 0), 4);
        one.putSign(0);
        check.is("ifAdded(0, 0) of one with its sign right", one.ifAdded(0, 0), 3);
        check.is("ifAdded(1, 0) of one with its sign right", one.ifAdded(1, 0), 3);
    }

    private void kindsOfIfAdded() {
        check.of(IF_ADDED, "- `kind`: 0 to 3");
        for (int kind = 0; kind <= 3; kind++) {
            int other = kind;
            check.onlyAnswers("ifAdded(2, " + kind + ")", kind == 0 ? 8 : 0,
                    () -> Check.right("wGww"), x -> x.ifAdded(2, other));
            check.onlyAnswers("ifAdded(1, " + kind + ")", kind == 0 ? 4 : 0,
                    () -> Check.right("wGww"), x -> x.ifAdded(1, other));
        }
        // A whole level between them takes the half ones along.
        check.is("ifAdded(2, 0) below half floors", Check.right("Gwhh").ifAdded(2, 0), 8);
        check.is("ifAdded(2, 2) below half floors", Check.right("Gwhh").ifAdded(2, 2), 0);
    }

    private void itsOwnOnesLeftOut() {
        check.of(IF_ADDED, "Returns the signs and buttons, together, that would be wrong behind add(l, kind),"
                + " its own ones left out.");
        check.onlyAnswers("ifAdded(0, 0) of 15 of which none says anything", 60,
                () -> Check.house(FULL.substring(0, 15)), x -> x.ifAdded(0, 0));
        check.onlyAnswers("ifAdded(15, 3) of 15 of which none says anything", 60,
                () -> Check.house(FULL.substring(0, 15)), x -> x.ifAdded(15, 3));
        check.onlyAnswers("ifAdded(15, 0) of 15 that are right", 0,
                () -> Check.right(FULL.substring(0, 15)), x -> x.ifAdded(15, 0));
        check.onlyAnswers("ifAdded(1, 0) of 15 that are right", 56,
                () -> Check.right(FULL.substring(0, 15)), x -> x.ifAdded(1, 0));
        FloorPanels x = Check.right("Gw");
        x.remove(1);
        x.add(1, 0);
        check.is("ifAdded(1, 0) below one that says nothing", x.ifAdded(1, 0), 4);
        FloorPanels shifted = Check.right("Gww");
        shifted.remove(1);
        check.is("the wrong ones when a level is gone", shifted.about(2) + shifted.about(3), 4);
        check.is("ifAdded(1, 0) in its place", shifted.ifAdded(1, 0), 0);
        check.is("ifAdded(2, 0) above", shifted.ifAdded(2, 0), 4);
    }

    private void asBehindAdd() {
        check.of(IF_ADDED, "Tells what a new level would make wrong.");
        for (String house : HOUSES) {
            int levels = Check.house(house).about(0);
            for (int l = 0; l <= levels; l++) {
                for (int kind = 0; kind <= 3; kind++) {
                    FloorPanels x = Check.manifold(house);
                    int answer = x.ifAdded(l, kind);
                    x.add(l, kind);
                    int own = 4 - x.level(l, 3) - x.button(0, l, 1) - x.button(1, l, 1) - x.button(2, l, 1);
                    check.is("ifAdded(" + l + ", " + kind + ") of " + house, answer, wrong(x) - own);
                }
            }
        }
    }

    private void ifAddedOutOfRange() {
        check.of(IF_ADDED, "Throws `IndexOutOfBoundsException` if l is out of range");
        for (int l : new int[] {-1, 5, 16, 17, Integer.MIN_VALUE, Integer.MAX_VALUE}) {
            for (int kind = -1; kind <= 4; kind++) {
                int other = kind;
                check.refuses("ifAdded(" + l + ", " + kind + ") to 4", Check.INDEX, EdgesOfRides::busy,
                        x -> x.ifAdded(l, other));
            }
        }
        check.refuses("ifAdded(2, 0) to one", Check.INDEX, FloorPanels::new, x -> x.ifAdded(2, 0));
        check.refuses("ifAdded(17, 0) to 16", Check.INDEX, () -> Check.busy(FULL), x -> x.ifAdded(17, 0));
        check.refuses("ifAdded(-1, 0) to 16", Check.INDEX, () -> Check.busy(FULL), x -> x.ifAdded(-1, 0));
    }

    private void ifAddedNoKind() {
        check.of(IF_ADDED, "Throws `IllegalArgumentException` if kind is out of range");
        for (int kind : new int[] {-1, 4, Integer.MIN_VALUE, Integer.MAX_VALUE}) {
            for (int l = 0; l <= 4; l++) {
                int at = l;
                check.refuses("ifAdded(" + l + ", " + kind + ")", Check.ARGUMENT, EdgesOfRides::busy,
                        x -> x.ifAdded(at, kind));
            }
            check.refuses("ifAdded(0, " + kind + ") to 16", Check.ARGUMENT, () -> Check.busy(FULL),
                    x -> x.ifAdded(0, kind));
        }
    }

    private void ifAddedToSixteen() {
        check.of(IF_ADDED, "Throws `IllegalStateException` if there are 16 levels");
        for (int l = 0; l <= 16; l++) {
            int at = l;
            check.refuses("ifAdded(" + l + ", 0) to 16", Check.STATE, () -> Check.busy(FULL),
                    x -> x.ifAdded(at, 0));
        }
        check.refuses("ifAdded(16, 3) to 16", Check.STATE, () -> Check.busy(FULL), x -> x.ifAdded(16, 3));
        check.is("ifAdded(15, 3) to 15", Check.house(FULL.substring(0, 15)).ifAdded(15, 3), 60);
    }

    // ---- Promise 28

    private void theWorstOfSeveral() {
        check.of(WORST, "Returns the car with the greatest astray(), of several the lowest.");
        check.onlyAnswers("worst() of a new object", 0, FloorPanels::new, x -> x.worst());
        check.onlyAnswers("worst() of 16 of which none says anything", 0, () -> Check.house(FULL),
                x -> x.worst());
        check.onlyAnswers("worst() of 16 that are right", 0, () -> Check.right(FULL), x -> x.worst());
        for (int right = 0; right < 8; right++) {
            FloorPanels x = Check.house("wGw");
            for (int c = 0; c <= 2; c++) {
                if ((right >> c & 1) == 1) {
                    x.putCar(c);
                }
            }
            int due = (right & 1) == 0 ? 0 : (right & 2) == 0 ? 1 : (right & 4) == 0 ? 2 : 0;
            check.is("worst() when these are right: " + right, x.worst(), due);
        }
        // All orders of three numbers: none of one level, 2 of two, 6 of three.
        for (int none = 0; none <= 2; none++) {
            for (int few = 0; few <= 2; few++) {
                if (few != none) {
                    FloorPanels x = Check.house("wGw");
                    x.putCar(none);
                    x.serve(few, 0, false);
                    check.is("astray(" + few + ")", x.astray(few), 2);
                    check.is("worst()", x.worst(), 3 - none - few);
                }
            }
        }
    }
}
