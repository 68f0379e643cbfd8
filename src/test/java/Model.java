import java.util.ArrayDeque;
import java.util.ArrayList;
import java.util.Arrays;
import java.util.HashMap;
import java.util.List;
import java.util.Map;
import java.util.TreeSet;
import java.util.regex.Pattern;

/**
 * The document followed word by word, with no thought of room or speed, so that it can be
 * held against the program. Answers are numbers, or the names of exceptions.
 */
final class Model {
    static final class Level {
        int kind;
        Integer sign;
        Integer[] buttons = new Integer[3];
        boolean[] served = {true, true, true};
        boolean isGround;

        Level(int kind) {
            this.kind = kind;
        }

        Level copy() {
            Level other = new Level(kind);
            other.sign = sign;
            other.buttons = buttons.clone();
            other.served = served.clone();
            other.isGround = isGround;
            return other;
        }
    }

    static final class State {
        List<Level> levels = new ArrayList<>();
        TreeSet<Integer> skipped = new TreeSet<>();

        State copy() {
            State other = new State();
            for (Level level : levels) {
                other.levels.add(level.copy());
            }
            other.skipped.addAll(skipped);
            return other;
        }
    }

    /** What a call throws in the model. */
    static final class Refused extends RuntimeException {
        private static final long serialVersionUID = 1;
        final String name;

        Refused(String name) {
            super(name, null, false, false);
            this.name = name;
        }
    }

    State now = new State();
    String text = "";
    ArrayDeque<State> remembered = new ArrayDeque<>();
    State[] slots = new State[2];

    Model() {
        Level ground = new Level(0);
        ground.isGround = true;
        now.levels.add(ground);
    }

    // ---- exceptions

    private static void index(boolean good) {
        if (!good) {
            throw new Refused("IndexOutOfBoundsException");
        }
    }

    private static void argument(boolean good) {
        if (!good) {
            throw new Refused("IllegalArgumentException");
        }
    }

    private static void state(boolean good) {
        if (!good) {
            throw new Refused("IllegalStateException");
        }
    }

    private void levelIs(int l) {
        index(0 <= l && l <= now.levels.size() - 1);
    }

    private static void carIs(int c) {
        index(c == 0 || c == 1 || c == 2);
    }

    private void remember() {
        remembered.addLast(now.copy());
        while (remembered.size() > 14) {
            remembered.removeFirst();
        }
    }

    // ---- names

    int ground() {
        for (int l = 0; l < now.levels.size(); l++) {
            if (now.levels.get(l).isGround) {
                return l;
            }
        }
        throw new AssertionError("no ground");
    }

    /** The storey by the sentences of NAMES; null if it has none. */
    private Integer storey(int l) {
        int ground = ground();
        int kind = now.levels.get(l).kind;
        if (l == ground) {
            return 0;
        }
        if (kind == 3) {
            return null;
        }
        int step = l > ground ? 1 : -1;
        if (kind == 0) {
            int count = 0;
            for (int at = ground + step; at != l + step; at += step) {
                count += now.levels.get(at).kind == 0 ? 1 : 0;
            }
            return step > 0 ? storeyNumber(count) : -count;
        }
        for (int near = l - step; ; near -= step) {
            int other = now.levels.get(near).kind;
            if (kind == 1 && other != 3 || kind == 2 && (other == 0 || other == 2)) {
                return storey(near);
            }
        }
    }

    private int storeyNumber(int count) {
        List<Integer> usable = new ArrayList<>();
        for (int storey = 1; storey <= 60; storey++) {
            if (!now.skipped.contains(storey)) {
                usable.add(storey);
            }
        }
        return usable.get(count - 1);
    }

    private Integer name(int l) {
        Integer storey = storey(l);
        int kind = now.levels.get(l).kind;
        return storey == null ? null : Integer.valueOf(4 * storey + (kind == 1 ? 1 : kind == 2 ? 2 : 0));
    }

    private static int told(Integer name) {
        return name == null ? -1 : name;
    }

    private static boolean same(Integer a, Integer b) {
        return a == null ? b == null : a.equals(b);
    }

    private int inCommon(int l) {
        int count = 0;
        for (int other = 0; other < now.levels.size() && name(l) != null; other++) {
            count += same(name(l), name(other)) ? 1 : 0;
        }
        return count;
    }

    private int wrongSigns() {
        int count = 0;
        for (int l = 0; l < now.levels.size(); l++) {
            count += same(now.levels.get(l).sign, name(l)) ? 0 : 1;
        }
        return count;
    }

    private int wrongButtons(int c) {
        int count = 0;
        for (int l = 0; l < now.levels.size(); l++) {
            count += same(now.levels.get(l).buttons[c], name(l)) ? 0 : 1;
        }
        return count;
    }

    private int wrong() {
        return wrongSigns() + wrongButtons(0) + wrongButtons(1) + wrongButtons(2);
    }

    // ---- text

    int append(int c) {
        argument(c >= 0 && c <= 255);
        state(text.length() < 60);
        text += (char) c;
        return text.length();
    }

    int clearText() {
        int before = text.length();
        text = "";
        return before;
    }

    /** Whether a text can still become a house: each way of going on is tried by patterns. */
    private static boolean isBeginning(String s) {
        int slash = s.indexOf('/');
        String letters = slash < 0 ? s : s.substring(0, slash);
        int grounds = letters.length() - letters.replace("G", "").length();
        if (!Pattern.matches("[Gwhjx]*", letters) || letters.length() > 16 || grounds > 1
                || letters.length() == 16 && grounds == 0) {
            return false;
        }
        if (slash < 0) {
            return true;
        }
        String[] storeys = s.substring(slash + 1).split(",", -1);
        int before = 0;
        for (int i = 0; i < storeys.length; i++) {
            boolean isLast = i == storeys.length - 1;
            if (!Pattern.matches("[1-9]?|[12][0-9]|30", storeys[i])
                    || !isLast && (storeys[i].isEmpty() || Integer.parseInt(storeys[i]) <= before)) {
                return false;
            }
            before = isLast ? before : Integer.parseInt(storeys[i]);
        }
        return grounds == 1;
    }

    private static boolean isHouse(String s) {
        int slash = s.indexOf('/');
        if (!isBeginning(s) || s.indexOf('G') < 0) {
            return false;
        }
        if (slash < 0) {
            return true;
        }
        int before = 0;
        for (String storey : s.substring(slash + 1).split(",", -1)) {
            if (storey.isEmpty() || Integer.parseInt(storey) <= before) {
                return false;
            }
            before = Integer.parseInt(storey);
        }
        return true;
    }

    int errorPosition() {
        for (int length = 1; length <= text.length(); length++) {
            if (!isBeginning(text.substring(0, length))) {
                return length - 1;
            }
        }
        return isHouse(text) ? -1 : text.length();
    }

    int load() {
        state(isHouse(text));
        now = new State();
        String[] parts = text.split("/");
        for (char c : parts[0].toCharArray()) {
            Level level = new Level(Math.max(0, "whjx".indexOf(c)));
            level.isGround = c == 'G';
            now.levels.add(level);
        }
        if (parts.length == 2) {
            for (String storey : parts[1].split(",")) {
                now.skipped.add(Integer.parseInt(storey));
            }
        }
        remembered.clear();
        Arrays.fill(slots, null);
        return now.levels.size();
    }

    // ---- what there is

    int about(int what) {
        argument(what >= 0 && what <= 8);
        int nameless = 0;
        int common = 0;
        TreeSet<Integer> storeys = new TreeSet<>();
        for (int l = 0; l < now.levels.size(); l++) {
            nameless += name(l) == null ? 1 : 0;
            common += inCommon(l) >= 2 ? 1 : 0;
            if (storey(l) != null) {
                storeys.add(storey(l));
            }
        }
        int[] all = {now.levels.size(), ground(), wrongSigns(),
            wrongButtons(0) + wrongButtons(1) + wrongButtons(2), nameless, common,
            now.skipped.size(), storeys.last(), storeys.first()};
        return all[what];
    }

    int level(int l, int what) {
        levelIs(l);
        argument(what >= 0 && what <= 4);
        Level level = now.levels.get(l);
        int[] all = {level.kind, told(name(l)), told(level.sign),
            same(level.sign, name(l)) ? 1 : 0, inCommon(l)};
        return all[what];
    }

    int button(int c, int l, int what) {
        carIs(c);
        levelIs(l);
        argument(what >= 0 && what <= 2);
        Level level = now.levels.get(l);
        int[] all = {told(level.buttons[c]), same(level.buttons[c], name(l)) ? 1 : 0,
            level.served[c] ? 1 : 0};
        return all[what];
    }

    int isSkipped(int storey) {
        argument(storey >= 1 && storey <= 30);
        return now.skipped.contains(storey) ? 1 : 0;
    }

    int named(int name, int k) {
        argument(k >= 0);
        List<Integer> all = new ArrayList<>();
        for (int l = 0; l < now.levels.size(); l++) {
            if (name(l) != null && name(l) == name) {
                all.add(l);
            }
        }
        return k < all.size() ? all.get(k) : -1;
    }

    // ---- actions

    int add(int l, int kind) {
        index(l >= 0 && l <= now.levels.size());
        argument(kind >= 0 && kind <= 3);
        state(now.levels.size() != 16);
        remember();
        now.levels.add(l, new Level(kind));
        return now.levels.size();
    }

    int remove(int l) {
        levelIs(l);
        state(!now.levels.get(l).isGround);
        remember();
        now.levels.remove(l);
        return now.levels.size();
    }

    int kind(int l, int kind) {
        levelIs(l);
        argument(kind >= 0 && kind <= 3);
        state(!now.levels.get(l).isGround || kind == 0);
        remember();
        int before = now.levels.get(l).kind;
        now.levels.get(l).kind = kind;
        return before;
    }

    int ground(int l) {
        levelIs(l);
        state(now.levels.get(l).kind == 0);
        remember();
        int before = ground();
        now.levels.get(before).isGround = false;
        now.levels.get(l).isGround = true;
        return before;
    }

    int skip(int storey, boolean is) {
        argument(storey >= 1 && storey <= 30);
        remember();
        if (is) {
            now.skipped.add(storey);
        } else {
            now.skipped.remove(storey);
        }
        return now.skipped.size();
    }

    int serve(int c, int l, boolean is) {
        carIs(c);
        levelIs(l);
        remember();
        now.levels.get(l).served[c] = is;
        int count = 0;
        for (Level level : now.levels) {
            count += level.served[c] ? 1 : 0;
        }
        return count;
    }

    int putSign(int l) {
        levelIs(l);
        remember();
        Integer before = now.levels.get(l).sign;
        now.levels.get(l).sign = name(l);
        return told(before);
    }

    int putButton(int c, int l) {
        carIs(c);
        levelIs(l);
        remember();
        Integer before = now.levels.get(l).buttons[c];
        now.levels.get(l).buttons[c] = name(l);
        return told(before);
    }

    int putCar(int c) {
        carIs(c);
        remember();
        int count = wrongButtons(c);
        for (int l = 0; l < now.levels.size(); l++) {
            now.levels.get(l).buttons[c] = name(l);
        }
        return count;
    }

    int exchange(int c, int l, int m) {
        carIs(c);
        levelIs(l);
        levelIs(m);
        remember();
        Integer said = now.levels.get(l).buttons[c];
        now.levels.get(l).buttons[c] = now.levels.get(m).buttons[c];
        now.levels.get(m).buttons[c] = said;
        TreeSet<Integer> both = new TreeSet<>(List.of(l));
        both.add(m);
        int count = 0;
        for (int one : both) {
            count += same(now.levels.get(one).buttons[c], name(one)) ? 0 : 1;
        }
        return count;
    }

    int undo() {
        state(!remembered.isEmpty());
        now = remembered.removeLast();
        return remembered.size();
    }

    // ---- rides, and what would be

    private boolean stops(int c, int l) {
        return name(l) != null && now.levels.get(l).served[c];
    }

    private int destination(int c, int from, Integer name) {
        for (int l = 0; stops(c, from) && name != null && l < now.levels.size(); l++) {
            if (l != from && stops(c, l) && name.equals(now.levels.get(l).buttons[c])) {
                return l;
            }
        }
        return -1;
    }

    int goes(int c, int from, int name) {
        carIs(c);
        levelIs(from);
        return destination(c, from, name == -1 ? null : Integer.valueOf(name));
    }

    int astray(int c) {
        carIs(c);
        int pairs = 0;
        for (int a = 0; a < now.levels.size(); a++) {
            for (int b = 0; b < now.levels.size(); b++) {
                if (a != b && stops(c, a) && stops(c, b)
                        && destination(c, a, now.levels.get(b).buttons[c]) != b) {
                    pairs++;
                }
            }
        }
        return pairs;
    }

    int rides(int from, int to) {
        levelIs(from);
        levelIs(to);
        Map<Integer, Integer> far = new HashMap<>();
        ArrayDeque<Integer> open = new ArrayDeque<>();
        far.put(from, 0);
        open.add(from);
        while (!open.isEmpty()) {
            int at = open.removeFirst();
            for (int c = 0; c < 3; c++) {
                for (Level level : now.levels) {
                    int next = destination(c, at, level.buttons[c]);
                    if (next != -1 && !far.containsKey(next)) {
                        far.put(next, far.get(at) + 1);
                        open.addLast(next);
                    }
                }
            }
        }
        return far.getOrDefault(to, -1);
    }

    /** A model of its own, for what may be tried and thrown away. */
    private Model copy() {
        Model other = new Model();
        other.now = now.copy();
        return other;
    }

    int ifSkipped(int storey) {
        argument(storey >= 1 && storey <= 30);
        Model other = copy();
        other.skip(storey, !now.skipped.contains(storey));
        return other.wrong();
    }

    int bestSkip() {
        int best = 1;
        for (int storey = 30; storey >= 1; storey--) {
            if (ifSkipped(storey) <= ifSkipped(best)) {
                best = storey;
            }
        }
        return ifSkipped(best) < wrong() ? best : -1;
    }

    int ifAdded(int l, int kind) {
        index(l >= 0 && l <= now.levels.size());
        argument(kind >= 0 && kind <= 3);
        state(now.levels.size() < 16);
        Model other = copy();
        other.add(l, kind);
        other.putSign(l);
        other.putButton(0, l);
        other.putButton(1, l);
        other.putButton(2, l);
        return other.wrong();
    }

    int worst() {
        int worst = 2;
        for (int c = 1; c >= 0; c--) {
            worst = astray(c) >= astray(worst) ? c : worst;
        }
        return worst;
    }

    // ---- scripts, simulations

    int runScript(int n, long script) {
        argument(n >= 1 && n <= 3);
        argument(script >= 0 && Long.toString(script).length() <= 4 * n);
        StringBuilder digits = new StringBuilder(Long.toString(script));
        while (digits.length() < 4 * n) {
            digits.insert(0, '0');
        }
        Model other = copy();
        for (int i = 0; i < n; i++) {
            if (!other.command(digits.substring(4 * i, 4 * i + 4))) {
                return i;
            }
        }
        return -1;
    }

    private boolean command(String d) {
        int middle = Integer.parseInt(d.substring(1, 3));
        int end = Integer.parseInt(d.substring(2));
        int second = d.charAt(1) - '0';
        int last = d.charAt(3) - '0';
        try {
            if (d.matches("1...")) {
                add(middle, last);
            } else if (d.matches("2..0")) {
                remove(middle);
            } else if (d.matches("3...")) {
                kind(middle, last);
            } else if (d.matches("4..[01]")) {
                skip(middle, last == 1);
            } else if (d.matches("5..0")) {
                putSign(middle);
            } else if (d.matches("6...")) {
                putButton(second, end);
            } else if (d.matches("7.00")) {
                putCar(second);
            } else if (d.matches("8...")) {
                return button(second, end, 1) == 1;
            } else if (d.matches("90..")) {
                return wrong() <= end;
            } else {
                return false;
            }
            return true;
        } catch (Refused e) {
            return false;
        }
    }

    int simulate(long seed, int m) {
        argument(m >= 1 && m <= 80);
        Model other = copy();
        long x = seed;
        for (int i = 0; i < m; i++) {
            x = x * 6364136223846793005L + 1442695040888963407L;
            try {
                other.turn((int) (x >>> 33));
            } catch (Refused e) {
                // It is left out.
            }
        }
        return 1000 * other.wrong() + other.now.levels.size();
    }

    private void turn(int r) {
        int l = r / 16 % 16;
        switch (r % 16) {
            case 0, 1 -> add(l, r / 256 % 4);
            case 2 -> remove(l);
            case 3 -> kind(l, r / 256 % 4);
            case 4 -> ground(l);
            case 5, 6 -> skip(1 + r / 16 % 30, r / 512 % 2 == 0);
            case 7 -> serve(r / 256 % 3, l, r / 1024 % 2 == 0);
            case 8, 9, 10 -> putSign(l);
            case 11 -> putCar(r / 256 % 3);
            case 12 -> exchange(r / 256 % 3, l, r / 1024 % 16);
            default -> putButton(r / 256 % 3, l);
        }
    }

    // ---- save slots

    int save(int slot) {
        index(slot == 0 || slot == 1);
        slots[slot] = now.copy();
        return now.levels.size();
    }

    int restore(int slot) {
        index(slot == 0 || slot == 1);
        state(slots[slot] != null);
        now = slots[slot].copy();
        remembered.clear();
        return now.levels.size();
    }
}
