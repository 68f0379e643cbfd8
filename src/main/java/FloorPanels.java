/**
 * The panels of an elevator whose floors are numbered anew.
 * What each call promises is told in ../shared/DOC.md.
 */
public final class FloorPanels {
    /** There is no such result; as what a sign says, nothing. */
    public static final int NONE = -1;

    private static final int CARS = 3;
    private static final int MAX_LEVELS = 16;
    private static final int MAX_STOREY = 30;
    private static final int MAX_TURNS = 80;
    private static final int SLOTS = 2;

    private static final int WHOLE = 0;
    private static final int HALF = 1;
    private static final int JOINED = 2;
    private static final int WALLED_UP = 3;

    private final HouseText text;
    private final House house;
    private final House trial;
    private final History history;
    private final House[] slots;
    private final boolean[] saved;

    public FloorPanels() {
        text = new HouseText();
        house = new House();
        trial = new House();
        history = new History();
        slots = new House[SLOTS];
        for (int slot = 0; slot < slots.length; slot++) {
            slots[slot] = new House();
        }
        saved = new boolean[SLOTS];
    }

    // ---- text

    public int append(int c) throws IllegalArgumentException, IllegalStateException {
        if (c < 0 || c > 255) {
            throw new IllegalArgumentException("no such character");
        }
        if (text.isFull()) {
            throw new IllegalStateException("the text is full");
        }
        text.write((char) c);
        return text.length();
    }

    public int clearText() {
        int before = text.length();
        text.wipe();
        return before;
    }

    public int errorPosition() {
        return text.firstError();
    }

    public int load() throws IllegalStateException {
        if (text.firstError() != NONE) {
            throw new IllegalStateException("the text is not a house");
        }
        house.rebuild(text);
        history.forget();
        for (int slot = 0; slot < saved.length; slot++) {
            saved[slot] = false;
        }
        return house.levels();
    }

    // ---- what there is

    public int about(int what) throws IllegalArgumentException {
        switch (what) {
            case 0:
                return house.levels();
            case 1:
                return house.groundLevel();
            case 2:
                return house.wrongSigns();
            case 3:
                return house.wrongButtons();
            case 4:
                return house.namelessLevels();
            case 5:
                return house.levelsWithSharedNames();
            case 6:
                return house.skippedStoreys();
            case 7:
                return house.greatestStorey();
            case 8:
                return house.leastStorey();
            default:
                throw new IllegalArgumentException("no such number of the house");
        }
    }

    public int level(int l, int what) throws IndexOutOfBoundsException, IllegalArgumentException {
        requireLevel(l);
        switch (what) {
            case 0:
                return house.kindOf(l);
            case 1:
                return house.nameOf(l);
            case 2:
                return house.signAt(l);
            case 3:
                return house.isSignRight(l) ? 1 : 0;
            case 4:
                return house.levelsNamedLike(l);
            default:
                throw new IllegalArgumentException("no such number of a level");
        }
    }

    public int button(int c, int l, int what)
            throws IndexOutOfBoundsException, IllegalArgumentException {
        requireCar(c);
        requireLevel(l);
        switch (what) {
            case 0:
                return house.buttonAt(c, l);
            case 1:
                return house.isButtonRight(c, l) ? 1 : 0;
            case 2:
                return house.isServed(c, l) ? 1 : 0;
            default:
                throw new IllegalArgumentException("no such number of a button");
        }
    }

    public boolean isSkipped(int storey) throws IllegalArgumentException {
        requireStorey(storey);
        return house.skips(storey);
    }

    public int named(int name, int k) throws IllegalArgumentException {
        if (k < 0) {
            throw new IllegalArgumentException("k is negative");
        }
        return house.levelNamed(name, k);
    }

    // ---- actions

    public int add(int l, int kind)
            throws IndexOutOfBoundsException, IllegalArgumentException, IllegalStateException {
        requireRoomFor(l, kind);
        history.remember(house);
        house.insertLevel(l, kind);
        return house.levels();
    }

    public int remove(int l) throws IndexOutOfBoundsException, IllegalStateException {
        requireLevel(l);
        if (l == house.groundLevel()) {
            throw new IllegalStateException("the ground stays");
        }
        history.remember(house);
        house.deleteLevel(l);
        return house.levels();
    }

    public int kind(int l, int kind)
            throws IndexOutOfBoundsException, IllegalArgumentException, IllegalStateException {
        requireLevel(l);
        requireKind(kind);
        if (l == house.groundLevel() && kind != WHOLE) {
            throw new IllegalStateException("the ground stays whole");
        }
        history.remember(house);
        int before = house.kindOf(l);
        house.changeKind(l, kind);
        return before;
    }

    public int ground(int l) throws IndexOutOfBoundsException, IllegalStateException {
        requireLevel(l);
        if (house.kindOf(l) != WHOLE) {
            throw new IllegalStateException("only a whole level can be the ground");
        }
        history.remember(house);
        int before = house.groundLevel();
        house.moveGround(l);
        return before;
    }

    public int skip(int storey, boolean is) throws IllegalArgumentException {
        requireStorey(storey);
        history.remember(house);
        house.changeSkip(storey, is);
        return house.skippedStoreys();
    }

    public int serve(int c, int l, boolean is) throws IndexOutOfBoundsException {
        requireCar(c);
        requireLevel(l);
        history.remember(house);
        house.changeService(c, l, is);
        return house.servedLevels(c);
    }

    public int putSign(int l) throws IndexOutOfBoundsException {
        requireLevel(l);
        history.remember(house);
        int before = house.signAt(l);
        house.correctSign(l);
        return before;
    }

    public int putButton(int c, int l) throws IndexOutOfBoundsException {
        requireCar(c);
        requireLevel(l);
        history.remember(house);
        int before = house.buttonAt(c, l);
        house.correctButton(c, l);
        return before;
    }

    public int putCar(int c) throws IndexOutOfBoundsException {
        requireCar(c);
        history.remember(house);
        int before = house.wrongButtonsOf(c);
        house.correctCar(c);
        return before;
    }

    public int exchange(int c, int l, int m) throws IndexOutOfBoundsException {
        requireCar(c);
        requireLevel(l);
        requireLevel(m);
        history.remember(house);
        house.swapButtons(c, l, m);
        int wrong = house.isButtonRight(c, l) ? 0 : 1;
        if (m != l && !house.isButtonRight(c, m)) {
            wrong++;
        }
        return wrong;
    }

    public int undo() throws IllegalStateException {
        if (history.isEmpty()) {
            throw new IllegalStateException("no state is remembered");
        }
        history.takeBack(house);
        return history.count();
    }

    // ---- rides, and what would be; these and all following methods up to the save slots
    // change nothing

    public int goes(int c, int from, int name) throws IndexOutOfBoundsException {
        requireCar(c);
        requireLevel(from);
        return Rides.destination(house, c, from, name);
    }

    public int astray(int c) throws IndexOutOfBoundsException {
        requireCar(c);
        return Rides.leadingAstray(house, c);
    }

    public int rides(int from, int to) throws IndexOutOfBoundsException {
        requireLevel(from);
        requireLevel(to);
        return Rides.fewest(house, from, to);
    }

    public int ifSkipped(int storey) throws IllegalArgumentException {
        requireStorey(storey);
        return wrongIfSkipChanged(storey);
    }

    public int bestSkip() {
        int best = NONE;
        int least = house.wrongInAll();
        for (int storey = 1; storey <= MAX_STOREY; storey++) {
            int wrong = wrongIfSkipChanged(storey);
            if (wrong < least) {
                least = wrong;
                best = storey;
            }
        }
        return best;
    }

    public int ifAdded(int l, int kind)
            throws IndexOutOfBoundsException, IllegalArgumentException, IllegalStateException {
        requireRoomFor(l, kind);
        trial.copyFrom(house);
        trial.insertLevel(l, kind);
        return trial.wrongInAll() - trial.wrongOf(l);
    }

    public int worst() {
        int worst = 0;
        int most = Rides.leadingAstray(house, 0);
        for (int c = 1; c < CARS; c++) {
            int astray = Rides.leadingAstray(house, c);
            if (astray > most) {
                most = astray;
                worst = c;
            }
        }
        return worst;
    }

    // ---- scripts, simulations

    public int runScript(int n, long script) throws IllegalArgumentException {
        if (n < 1 || n > Script.MAX_COMMANDS) {
            throw new IllegalArgumentException("a script has 1 to 3 commands");
        }
        if (script < 0 || script >= Script.above(n)) {
            throw new IllegalArgumentException("a command has four digits");
        }
        trial.copyFrom(house);
        return Script.firstFailure(trial, n, script);
    }

    public int simulate(long seed, int m) throws IllegalArgumentException {
        if (m < 1 || m > MAX_TURNS) {
            throw new IllegalArgumentException("1 to 80 turns are simulated");
        }
        trial.copyFrom(house);
        Simulation.run(trial, seed, m);
        return 1000 * trial.wrongInAll() + trial.levels();
    }

    // ---- save slots

    public int save(int slot) throws IndexOutOfBoundsException {
        requireSlot(slot);
        slots[slot].copyFrom(house);
        saved[slot] = true;
        return house.levels();
    }

    public int restore(int slot) throws IndexOutOfBoundsException, IllegalStateException {
        requireSlot(slot);
        if (!saved[slot]) {
            throw new IllegalStateException("nothing is saved there");
        }
        house.copyFrom(slots[slot]);
        history.forget();
        return house.levels();
    }

    // ---- what several calls ask first

    private void requireLevel(int l) throws IndexOutOfBoundsException {
        if (!house.hasLevel(l)) {
            throw new IndexOutOfBoundsException("no such level");
        }
    }

    private void requireCar(int c) throws IndexOutOfBoundsException {
        if (!isCar(c)) {
            throw new IndexOutOfBoundsException("no such car");
        }
    }

    private void requireSlot(int slot) throws IndexOutOfBoundsException {
        if (slot < 0 || slot >= SLOTS) {
            throw new IndexOutOfBoundsException("no such save slot");
        }
    }

    private void requireKind(int kind) throws IllegalArgumentException {
        if (!isKind(kind)) {
            throw new IllegalArgumentException("no such kind");
        }
    }

    private void requireStorey(int storey) throws IllegalArgumentException {
        if (!canBeSkipped(storey)) {
            throw new IllegalArgumentException("no such storey to skip");
        }
    }

    private void requireRoomFor(int l, int kind)
            throws IndexOutOfBoundsException, IllegalArgumentException, IllegalStateException {
        if (l < 0 || l > house.levels()) {
            throw new IndexOutOfBoundsException("no place for a level");
        }
        requireKind(kind);
        if (house.isFull()) {
            throw new IllegalStateException("the house is full");
        }
    }

    private int wrongIfSkipChanged(int storey) {
        trial.copyFrom(house);
        trial.changeSkip(storey, !trial.skips(storey));
        return trial.wrongInAll();
    }

    private static boolean isCar(int c) {
        return c >= 0 && c < CARS;
    }

    private static boolean isKind(int kind) {
        return kind >= WHOLE && kind <= WALLED_UP;
    }

    private static boolean canBeSkipped(int storey) {
        return storey >= 1 && storey <= MAX_STOREY;
    }

    /**
     * One state: the levels with their signs, buttons and cars, and the skipped storeys.
     * All that belongs to levels stands in rows of one array, so that a state is
     * copied, and a level added or removed, in the same way for all of it.
     */
    private static final class House {
        private static final int KIND = 0;
        private static final int NAME = 1;
        private static final int SIGN = 2;
        // At each of these two begins a row for each car. Just the rows from the signs
        // to the last buttons say names.
        private static final int BUTTON = 3;
        private static final int SERVED = BUTTON + CARS;
        private static final int ROWS = SERVED + CARS;

        private final int[] cells = new int[ROWS * MAX_LEVELS];
        private int levels;
        private int groundLevel;
        // The bit of a storey is set if it is skipped.
        private int skipped;

        House() {
            levels = 1;
            furnish(0, WHOLE);
            renumber();
        }

        void copyFrom(House other) {
            System.arraycopy(other.cells, 0, cells, 0, ROWS * MAX_LEVELS);
            levels = other.levels;
            groundLevel = other.groundLevel;
            skipped = other.skipped;
        }

        /** The text must be a house. */
        void rebuild(HouseText plan) {
            levels = plan.letters();
            groundLevel = plan.groundLetter();
            skipped = plan.storeys();
            for (int l = 0; l < levels; l++) {
                furnish(l, plan.kindTold(l));
            }
            renumber();
        }

        // ---- what there is

        int levels() {
            return levels;
        }

        int groundLevel() {
            return groundLevel;
        }

        boolean isFull() {
            return levels >= MAX_LEVELS;
        }

        boolean hasLevel(int l) {
            return l >= 0 && l < levels;
        }

        int kindOf(int l) {
            return cell(KIND, l);
        }

        int nameOf(int l) {
            return cell(NAME, l);
        }

        boolean hasName(int l) {
            return cell(NAME, l) != NONE;
        }

        int signAt(int l) {
            return cell(SIGN, l);
        }

        int buttonAt(int c, int l) {
            return cell(BUTTON + c, l);
        }

        boolean isServed(int c, int l) {
            return cell(SERVED + c, l) == 1;
        }

        boolean isStopOf(int c, int l) {
            return cell(NAME, l) != NONE && cell(SERVED + c, l) == 1;
        }

        boolean isSignRight(int l) {
            return isRight(SIGN, l);
        }

        boolean isButtonRight(int c, int l) {
            return isRight(BUTTON + c, l);
        }

        boolean skips(int storey) {
            return canBeSkipped(storey) && (skipped >>> storey & 1) == 1;
        }

        int skippedStoreys() {
            return Integer.bitCount(skipped);
        }

        int levelNamed(int name, int k) {
            int before = 0;
            for (int l = 0; l < levels; l++) {
                if (hasName(l) && nameOf(l) == name) {
                    if (before == k) {
                        return l;
                    }
                    before++;
                }
            }
            return NONE;
        }

        int levelsNamedLike(int l) {
            int count = 0;
            if (hasName(l)) {
                for (int other = 0; other < levels; other++) {
                    if (nameOf(other) == nameOf(l)) {
                        count++;
                    }
                }
            }
            return count;
        }

        int levelsWithSharedNames() {
            int count = 0;
            for (int l = 0; l < levels; l++) {
                if (levelsNamedLike(l) > 1) {
                    count++;
                }
            }
            return count;
        }

        int namelessLevels() {
            int count = 0;
            for (int l = 0; l < levels; l++) {
                if (!hasName(l)) {
                    count++;
                }
            }
            return count;
        }

        int greatestStorey() {
            // The ground has the storey 0, so the greatest is not below it.
            int greatest = 0;
            for (int l = 0; l < levels; l++) {
                if (hasName(l)) {
                    greatest = Math.max(greatest, Math.floorDiv(nameOf(l), 4));
                }
            }
            return greatest;
        }

        int leastStorey() {
            int least = 0;
            for (int l = 0; l < levels; l++) {
                if (hasName(l)) {
                    least = Math.min(least, Math.floorDiv(nameOf(l), 4));
                }
            }
            return least;
        }

        int servedLevels(int c) {
            int count = 0;
            for (int l = 0; l < levels; l++) {
                if (isServed(c, l)) {
                    count++;
                }
            }
            return count;
        }

        // ---- what is wrong

        int wrongSigns() {
            return wrongInRow(SIGN);
        }

        int wrongButtonsOf(int c) {
            return wrongInRow(BUTTON + c);
        }

        int wrongButtons() {
            int wrong = 0;
            for (int c = 0; c < CARS; c++) {
                wrong += wrongInRow(BUTTON + c);
            }
            return wrong;
        }

        int wrongInAll() {
            int wrong = 0;
            for (int row = SIGN; row < SERVED; row++) {
                wrong += wrongInRow(row);
            }
            return wrong;
        }

        int wrongOf(int l) {
            int wrong = isRight(SIGN, l) ? 0 : 1;
            for (int c = 0; c < CARS; c++) {
                if (!isRight(BUTTON + c, l)) {
                    wrong++;
                }
            }
            return wrong;
        }

        // ---- changes; none does anything where the document wants an exception, and those
        // that a script can ask for answer whether they are allowed

        boolean insertLevel(int l, int kind) {
            if (l < 0 || l > levels || !isKind(kind) || isFull()) {
                return false;
            }
            levels++;
            for (int row = 0; row < ROWS; row++) {
                for (int to = levels - 1; to > l; to--) {
                    put(row, to, cell(row, to - 1));
                }
            }
            furnish(l, kind);
            if (l <= groundLevel) {
                groundLevel++;
            }
            renumber();
            return true;
        }

        boolean deleteLevel(int l) {
            if (!hasLevel(l) || l == groundLevel) {
                return false;
            }
            levels--;
            for (int row = 0; row < ROWS; row++) {
                for (int to = l; to < levels; to++) {
                    put(row, to, cell(row, to + 1));
                }
            }
            if (l < groundLevel) {
                groundLevel--;
            }
            renumber();
            return true;
        }

        boolean changeKind(int l, int kind) {
            if (!hasLevel(l) || !isKind(kind) || l == groundLevel && kind != WHOLE) {
                return false;
            }
            put(KIND, l, kind);
            renumber();
            return true;
        }

        void moveGround(int l) {
            if (hasLevel(l) && kindOf(l) == WHOLE) {
                groundLevel = l;
                renumber();
            }
        }

        boolean changeSkip(int storey, boolean is) {
            if (!canBeSkipped(storey)) {
                return false;
            }
            int bit = 1 << storey;
            skipped = is ? skipped | bit : skipped & ~bit;
            renumber();
            return true;
        }

        void changeService(int c, int l, boolean is) {
            if (isCar(c) && hasLevel(l)) {
                put(SERVED + c, l, is ? 1 : 0);
            }
        }

        boolean correctSign(int l) {
            if (!hasLevel(l)) {
                return false;
            }
            put(SIGN, l, cell(NAME, l));
            return true;
        }

        boolean correctButton(int c, int l) {
            if (!isCar(c) || !hasLevel(l)) {
                return false;
            }
            put(BUTTON + c, l, cell(NAME, l));
            return true;
        }

        boolean correctCar(int c) {
            if (!isCar(c)) {
                return false;
            }
            for (int l = 0; l < levels; l++) {
                put(BUTTON + c, l, cell(NAME, l));
            }
            return true;
        }

        void swapButtons(int c, int l, int m) {
            if (isCar(c) && hasLevel(l) && hasLevel(m)) {
                int said = buttonAt(c, l);
                put(BUTTON + c, l, buttonAt(c, m));
                put(BUTTON + c, m, said);
            }
        }

        // ---- rows and names

        private int cell(int row, int l) {
            if (row < 0 || row >= ROWS || l < 0 || l >= MAX_LEVELS) {
                return NONE;
            }
            return cells[row * MAX_LEVELS + l];
        }

        private void put(int row, int l, int value) {
            if (row >= 0 && row < ROWS && l >= 0 && l < MAX_LEVELS) {
                cells[row * MAX_LEVELS + l] = value;
            }
        }

        private boolean isRight(int row, int l) {
            return cell(row, l) == cell(NAME, l);
        }

        private int wrongInRow(int row) {
            int wrong = 0;
            for (int l = 0; l < levels; l++) {
                if (!isRight(row, l)) {
                    wrong++;
                }
            }
            return wrong;
        }

        private void furnish(int l, int kind) {
            put(KIND, l, kind);
            put(SIGN, l, NONE);
            for (int c = 0; c < CARS; c++) {
                put(BUTTON + c, l, NONE);
                put(SERVED + c, l, 1);
            }
        }

        /** Half and joined levels go on with the storey of the last whole one on the way. */
        private void renumber() {
            int storey = 0;
            put(NAME, groundLevel, 0);
            for (int l = groundLevel + 1; l < levels; l++) {
                if (cell(KIND, l) == WHOLE) {
                    storey = storeyAbove(storey);
                }
                nameBy(l, storey);
            }
            storey = 0;
            for (int l = groundLevel - 1; l >= 0; l--) {
                if (cell(KIND, l) == WHOLE) {
                    storey--;
                }
                nameBy(l, storey);
            }
        }

        private int storeyAbove(int storey) {
            int next = storey + 1;
            while (next <= MAX_STOREY && (skipped >>> next & 1) == 1) {
                next++;
            }
            return next;
        }

        private void nameBy(int l, int storey) {
            // What a name adds for a half or joined level is the number of its kind.
            int kind = cell(KIND, l);
            put(NAME, l, kind == WALLED_UP ? NONE : 4 * storey + kind);
        }
    }

    /** The states that undo can bring back, in a ring: the newest replaces the oldest. */
    private static final class History {
        private static final int LIMIT = 14;

        private final House[] kept = new House[LIMIT];
        private int count;
        private int next;

        History() {
            for (int i = 0; i < LIMIT; i++) {
                kept[i] = new House();
            }
        }

        boolean isEmpty() {
            return count == 0;
        }

        int count() {
            return count;
        }

        void remember(House house) {
            kept[Math.floorMod(next, LIMIT)].copyFrom(house);
            next = Math.floorMod(next + 1, LIMIT);
            count = Math.min(count + 1, LIMIT);
        }

        void takeBack(House house) {
            next = Math.floorMod(next - 1, LIMIT);
            house.copyFrom(kept[next]);
            count--;
        }

        void forget() {
            count = 0;
        }
    }

    /** The text buffer, and the house that it tells. */
    private static final class HouseText {
        private static final int LIMIT = 60;

        private final char[] characters = new char[LIMIT];
        private int length;

        int length() {
            return length;
        }

        boolean isFull() {
            return length >= LIMIT;
        }

        void write(char c) {
            if (!isFull()) {
                characters[length] = c;
                length++;
            }
        }

        void wipe() {
            length = 0;
        }

        int firstError() {
            int end = letters();
            boolean hasGround = groundLetter() != NONE;
            if (end == length) {
                return hasGround ? NONE : length;
            }
            if (!hasGround || character(end) != '/') {
                return end;
            }
            return firstErrorInStoreys(end + 1);
        }

        /** How many characters at the start are letters that are allowed at their places. */
        int letters() {
            boolean hasGround = false;
            int at = 0;
            while (at < length && isLetterAllowed(at, hasGround)) {
                if (character(at) == 'G') {
                    hasGround = true;
                }
                at++;
            }
            return at;
        }

        /** The level of the ground; NONE if no letter tells it. */
        int groundLetter() {
            int end = letters();
            for (int at = 0; at < end; at++) {
                if (character(at) == 'G') {
                    return at;
                }
            }
            return NONE;
        }

        int kindTold(int l) {
            switch (character(l)) {
                case 'h':
                    return HALF;
                case 'j':
                    return JOINED;
                case 'x':
                    return WALLED_UP;
                default:
                    return WHOLE;
            }
        }

        /** The storeys that a house as a text skips, a bit for each. */
        int storeys() {
            int bits = 0;
            int number = 0;
            for (int at = letters() + 1; at < length; at++) {
                if (character(at) == ',') {
                    bits |= 1 << number;
                    number = 0;
                } else {
                    number = 10 * number + character(at) - '0';
                }
            }
            return number == 0 ? bits : bits | 1 << number;
        }

        private char character(int at) {
            return at >= 0 && at < length && at < LIMIT ? characters[at] : 0;
        }

        private boolean isLetterAllowed(int at, boolean hasGround) {
            if (at >= MAX_LEVELS) {
                return false;
            }
            switch (character(at)) {
                case 'G':
                    return !hasGround;
                case 'w':
                case 'h':
                case 'j':
                case 'x':
                    // The last place is kept for a ground that is still missing.
                    return hasGround || at < MAX_LEVELS - 1;
                default:
                    return false;
            }
        }

        private int firstErrorInStoreys(int start) {
            int before = 0;
            int number = 0;
            for (int at = start; at < length; at++) {
                char c = character(at);
                if (c == ',') {
                    if (number <= before) {
                        return at;
                    }
                    before = number;
                    number = 0;
                } else if (c >= '0' && c <= '9' && canBeSkipped(10 * number + c - '0')) {
                    number = 10 * number + c - '0';
                } else {
                    return at;
                }
            }
            return number > before ? NONE : length;
        }
    }

    /** Where rides in a house go. */
    private static final class Rides {
        static int destination(House house, int c, int from, int name) {
            if (name == NONE || !house.isStopOf(c, from)) {
                return NONE;
            }
            for (int l = 0; l < house.levels(); l++) {
                if (l != from && house.isStopOf(c, l) && house.buttonAt(c, l) == name) {
                    return l;
                }
            }
            return NONE;
        }

        static int leadingAstray(House house, int c) {
            int pairs = 0;
            for (int from = 0; from < house.levels(); from++) {
                for (int to = 0; to < house.levels(); to++) {
                    if (from != to && house.isStopOf(c, from) && house.isStopOf(c, to)
                            && destination(house, c, from, house.buttonAt(c, to)) != to) {
                        pairs++;
                    }
                }
            }
            return pairs;
        }

        static int fewest(House house, int from, int to) {
            // The bit of a level is set if it is reached.
            int reached = 1 << from;
            // No way needs a level twice, so it has fewer rides than there are levels.
            for (int count = 0; count < MAX_LEVELS; count++) {
                if ((reached >>> to & 1) == 1) {
                    return count;
                }
                int before = reached;
                reached |= oneRideFurther(house, before);
                if (reached == before) {
                    return NONE;
                }
            }
            return NONE;
        }

        private static int oneRideFurther(House house, int reached) {
            int further = 0;
            for (int from = 0; from < house.levels(); from++) {
                for (int to = 0; to < house.levels(); to++) {
                    if ((reached >>> from & 1) == 1 && (reached >>> to & 1) == 0
                            && anyCarLeads(house, from, to)) {
                        further |= 1 << to;
                    }
                }
            }
            return further;
        }

        private static boolean anyCarLeads(House house, int from, int to) {
            for (int c = 0; c < CARS; c++) {
                if (destination(house, c, from, house.buttonAt(c, to)) == to) {
                    return true;
                }
            }
            return false;
        }
    }

    /** Commands of four digits each. */
    private static final class Script {
        private static final int MAX_COMMANDS = 3;
        private static final int GROUP = 10000;

        /** The least number that has too many digits for n commands. */
        static long above(int n) {
            long above = 1;
            for (int i = 0; i < n && i < MAX_COMMANDS; i++) {
                above *= GROUP;
            }
            return above;
        }

        static int firstFailure(House house, int n, long script) {
            for (int i = 0; i < n; i++) {
                if (!succeeds(house, command(script, n - 1 - i))) {
                    return i;
                }
            }
            return NONE;
        }

        private static int command(long script, int groupsBehind) {
            long rest = script;
            for (int i = 0; i < groupsBehind; i++) {
                rest /= GROUP;
            }
            return (int) (rest % GROUP);
        }

        private static boolean succeeds(House house, int command) {
            int second = command / 100 % 10;
            int middle = command / 10 % 100;
            int last = command % 10;
            int lastTwo = command % 100;
            switch (command / 1000) {
                case 1:
                    return house.insertLevel(middle, last);
                case 2:
                    return last == 0 && house.deleteLevel(middle);
                case 3:
                    return house.changeKind(middle, last);
                case 4:
                    return last <= 1 && house.changeSkip(middle, last == 1);
                case 5:
                    return last == 0 && house.correctSign(middle);
                case 6:
                    return house.correctButton(second, lastTwo);
                case 7:
                    return lastTwo == 0 && house.correctCar(second);
                case 8:
                    return isCar(second) && house.hasLevel(lastTwo)
                            && house.isButtonRight(second, lastTwo);
                case 9:
                    return second == 0 && house.wrongInAll() <= lastTwo;
                default:
                    return false;
            }
        }
    }

    /** Turns that a long chooses. */
    private static final class Simulation {
        static void run(House house, long seed, int turns) {
            long x = seed;
            for (int i = 0; i < turns; i++) {
                x = x * 6364136223846793005L + 1442695040888963407L;
                turn(house, (int) (x >>> 33));
            }
        }

        private static void turn(House house, int r) {
            int l = r / 16 % 16;
            int kind = r / 256 % 4;
            int c = r / 256 % 3;
            switch (r % 16) {
                case 0:
                case 1:
                    house.insertLevel(l, kind);
                    break;
                case 2:
                    house.deleteLevel(l);
                    break;
                case 3:
                    house.changeKind(l, kind);
                    break;
                case 4:
                    house.moveGround(l);
                    break;
                case 5:
                case 6:
                    house.changeSkip(1 + r / 16 % 30, r / 512 % 2 == 0);
                    break;
                case 7:
                    house.changeService(c, l, r / 1024 % 2 == 0);
                    break;
                case 8:
                case 9:
                case 10:
                    house.correctSign(l);
                    break;
                case 11:
                    house.correctCar(c);
                    break;
                case 12:
                    house.swapButtons(c, l, r / 1024 % 16);
                    break;
                default:
                    house.correctButton(c, l);
                    break;
            }
        }
    }
}
