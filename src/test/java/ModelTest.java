/**
 * Runs of calls on the program and on the model side by side, as long as the document
 * promises anything for. The runs are chosen by numbers that are the same each time. Most
 * arguments are good ones, some are at the edge, some are far out.
 */
public final class ModelTest {
    private static final int RUNS = 1200;
    private static final int CALLS = 512;
    private static final int NUMBERS = 9;
    private static final String[] TEXTS = {"G", "wG", "Gw/1", "xwhGjwwhw/2,4,13",
        "whjxGwhjxwhj/1,2,3,30", "wwwwwwwGwwwwwwww", "GwhhwjjxwhwG", "wwwwwwwwwwwwwwww",
        "hhhhGjjjj/5,50", "w/1", "G/", "G/2,1,3", "wwwwwwwwwwwwwwwG/13", "Gwwwwwwwwwwwwwwwww",
        "Gwwhwwjwwwwwwwww/18,19,20,21,22,23,24,25,26,27,28,29,30", "whjwGhhjjwhhw",
        "wGw/1,2,3,4,5,6,7,8,9,10,11,12,13,14,15,16,17,18,19,20,21,22"};
    private static final String[] CALLS_OFTEN = {"text", "load", "add", "kind", "ground", "skip",
        "serve", "putSign", "putButton", "putCar", "exchange", "undo", "goes", "astray", "rides",
        "ifSkipped", "bestSkip", "ifAdded", "worst", "runScript", "simulate", "level", "button"};
    private static final String[] CALLS_SELDOM = {"append", "clearText", "errorPosition", "about",
        "isSkipped", "named", "remove", "save", "restore"};

    private static final Check check = new Check();

    private long chance;
    private int calls;
    private final FloorPanels program = new FloorPanels();
    private final Model model = new Model();
    private String call;
    private int a;
    private int b;
    private int c;
    private long big;
    private boolean is;

    public static void main(String[] args) {
        for (int run = 0; run < RUNS; run++) {
            new ModelTest().run(run);
        }
        check.end();
    }

    private void run(int run) {
        chance = run * 1000003L + 17;
        while (calls < CALLS - NUMBERS) {
            String[] some = below(3) == 0 ? CALLS_SELDOM : CALLS_OFTEN;
            call = some[below(some.length)];
            if (call.equals("load") && below(4) != 0) {
                call = "about";
            }
            if (call.equals("text")) {
                writeText();
            } else {
                chooseArguments();
                compare(run);
            }
        }
        call = "about";
        for (int what = 0; what < NUMBERS; what++) {
            a = what;
            compare(run);
        }
    }

    private void compare(int run) {
        calls++;
        String due;
        String got;
        try {
            due = String.valueOf(askModel());
        } catch (Model.Refused e) {
            due = "java.lang." + e.name;
        }
        try {
            got = String.valueOf(askProgram());
        } catch (RuntimeException e) {
            got = e.getClass().getName();
        }
        if (!got.equals(due)) {
            check.tell("run " + run + ", call " + calls + ": " + call + " of " + a + ", " + b + ", " + c
                    + ", " + big + ", " + is + " answered " + got + ", due is " + due);
        }
    }

    // ---- what is chosen

    private int below(int bound) {
        chance = chance * 6364136223846793005L + 1442695040888963407L;
        return (int) ((chance >>> 33) % bound);
    }

    private int number(int least, int greatest) {
        switch (below(60)) {
            case 0: return least - 1;
            case 1: return greatest + 1;
            case 2: return Integer.MIN_VALUE;
            case 3: return Integer.MAX_VALUE;
            case 4: return greatest;
            default: return least + below(greatest - least + 1);
        }
    }

    private int place() {
        return number(0, model.now.levels.size() - 1);
    }

    private void writeText() {
        String text = TEXTS[below(TEXTS.length)];
        if (calls + 1 + text.length() > CALLS - NUMBERS) {
            return;
        }
        calls += 1 + text.length();
        int changed = below(3) == 0 ? below(text.length()) : -1;
        char change = "Gwhjx/,0123456789".charAt(below(17));
        model.clearText();
        program.clearText();
        for (int i = 0; i < text.length(); i++) {
            model.append(i == changed ? change : text.charAt(i));
            program.append(i == changed ? change : text.charAt(i));
        }
    }

    private void chooseArguments() {
        is = below(2) == 0;
        switch (call) {
            case "append" -> a = below(2) == 0 ? number(0, 255) : "Gwhjx/,0123456789".charAt(below(17));
            case "about" -> a = number(0, 8);
            case "isSkipped", "skip", "ifSkipped" -> a = number(1, below(2) == 0 ? 30 : 8);
            case "save", "restore" -> a = number(0, 1);
            case "remove", "ground", "putSign" -> a = place();
            case "putCar", "astray" -> a = number(0, 2);
            case "level" -> choose(place(), number(0, 4), 0);
            case "button" -> choose(number(0, 2), place(), number(0, 2));
            case "named" -> choose(name(), number(0, 3), 0);
            case "add", "ifAdded" -> choose(number(0, model.now.levels.size()), number(0, 3), 0);
            case "kind" -> choose(place(), number(0, 3), 0);
            case "serve", "putButton" -> choose(number(0, 2), place(), 0);
            case "exchange" -> choose(number(0, 2), place(), place());
            case "goes" -> choose(number(0, 2), place(), name());
            case "rides" -> choose(place(), place(), 0);
            case "runScript" -> chooseScript();
            case "simulate" -> {
                a = number(1, 80);
                big = (long) below(Integer.MAX_VALUE) * below(Integer.MAX_VALUE) - below(1000000);
            }
            default -> { }
        }
    }

    private void choose(int first, int second, int third) {
        a = first;
        b = second;
        c = third;
    }

    private int name() {
        return below(5) == 0 ? -1 - below(40) : below(8) == 0 ? number(-60, 180) : below(40);
    }

    private void chooseScript() {
        a = number(1, 3);
        big = 0;
        for (int i = 0; i < a && i < 4; i++) {
            big = big * 10000 + command();
        }
        big = below(50) == 0 ? -big : below(50) == 0 ? big * 10 : big;
    }

    private int command() {
        int l = below(15) == 0 ? below(100) : below(model.now.levels.size() + 1);
        int car = below(15) == 0 ? below(10) : below(3);
        int seldomOne = below(20) / 19;
        switch (below(12)) {
            case 0: return 1000 + 10 * l + below(5);
            case 1: return 2000 + 10 * l + seldomOne;
            case 2: return 3000 + 10 * l + below(5);
            case 3: return 4000 + 10 * below(34) + below(2) + seldomOne;
            case 4: return 5000 + 10 * l + seldomOne;
            case 5: return 6000 + 100 * car + l;
            case 6: return 7000 + 100 * car + 10 * seldomOne + below(20) / 19;
            case 7: return 8000 + 100 * car + l;
            case 8: return 9000 + 100 * seldomOne + below(65);
            case 9: return below(10000);
            default: return 7000 + 100 * below(3);
        }
    }

    // ---- both sides

    private int askProgram() {
        return switch (call) {
            case "append" -> program.append(a);
            case "clearText" -> program.clearText();
            case "errorPosition" -> program.errorPosition();
            case "load" -> program.load();
            case "about" -> program.about(a);
            case "level" -> program.level(a, b);
            case "button" -> program.button(a, b, c);
            case "isSkipped" -> program.isSkipped(a) ? 1 : 0;
            case "named" -> program.named(a, b);
            case "add" -> program.add(a, b);
            case "remove" -> program.remove(a);
            case "kind" -> program.kind(a, b);
            case "ground" -> program.ground(a);
            case "skip" -> program.skip(a, is);
            case "serve" -> program.serve(a, b, is);
            case "putSign" -> program.putSign(a);
            case "putButton" -> program.putButton(a, b);
            case "putCar" -> program.putCar(a);
            case "exchange" -> program.exchange(a, b, c);
            case "undo" -> program.undo();
            case "goes" -> program.goes(a, b, c);
            case "astray" -> program.astray(a);
            case "rides" -> program.rides(a, b);
            case "ifSkipped" -> program.ifSkipped(a);
            case "bestSkip" -> program.bestSkip();
            case "ifAdded" -> program.ifAdded(a, b);
            case "worst" -> program.worst();
            case "runScript" -> program.runScript(a, big);
            case "simulate" -> program.simulate(big, a);
            case "save" -> program.save(a);
            case "restore" -> program.restore(a);
            default -> throw new AssertionError(call);
        };
    }

    private int askModel() {
        return switch (call) {
            case "append" -> model.append(a);
            case "clearText" -> model.clearText();
            case "errorPosition" -> model.errorPosition();
            case "load" -> model.load();
            case "about" -> model.about(a);
            case "level" -> model.level(a, b);
            case "button" -> model.button(a, b, c);
            case "isSkipped" -> model.isSkipped(a);
            case "named" -> model.named(a, b);
            case "add" -> model.add(a, b);
            case "remove" -> model.remove(a);
            case "kind" -> model.kind(a, b);
            case "ground" -> model.ground(a);
            case "skip" -> model.skip(a, is);
            case "serve" -> model.serve(a, b, is);
            case "putSign" -> model.putSign(a);
            case "putButton" -> model.putButton(a, b);
            case "putCar" -> model.putCar(a);
            case "exchange" -> model.exchange(a, b, c);
            case "undo" -> model.undo();
            case "goes" -> model.goes(a, b, c);
            case "astray" -> model.astray(a);
            case "rides" -> model.rides(a, b);
            case "ifSkipped" -> model.ifSkipped(a);
            case "bestSkip" -> model.bestSkip();
            case "ifAdded" -> model.ifAdded(a, b);
            case "worst" -> model.worst();
            case "runScript" -> model.runScript(a, big);
            case "simulate" -> model.simulate(big, a);
            case "save" -> model.save(a);
            case "restore" -> model.restore(a);
            default -> throw new AssertionError(call);
        };
    }
}
