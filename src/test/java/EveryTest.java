/** Every text and every house up to a length, and every command, against the model. */
public final class EveryTest {
    /** An object is good for 512 calls. */
    private static final int CALLS = 500;
    private static final int LEVELS = 6;

    private static final Check check = new Check();

    private FloorPanels program = new FloorPanels();
    private Model model = new Model();
    private int calls;

    public static void main(String[] args) {
        new EveryTest().texts("", "Gwx/,01239 ", 4);
        new EveryTest().texts("G/", ",/0123459", 5);
        new EveryTest().texts("wwwwwwwwwwwwww", "Gwx/1", 4);
        new EveryTest().houses("", false);
        new EveryTest().groups("wGwxh/3");
        new EveryTest().groups("hwjxhwjGwhjxwhjx/1,30");
        new EveryTest().groups("G");
        check.end();
    }

    private void called(int more) {
        calls += more;
        if (calls > CALLS) {
            program = new FloorPanels();
            model = new Model();
            calls = more;
        }
    }

    private void write(String text) {
        program.clearText();
        model.clearText();
        for (int i = 0; i < text.length(); i++) {
            program.append(text.charAt(i));
            model.append(text.charAt(i));
        }
    }

    private void texts(String text, String characters, int more) {
        called(text.length() + 2);
        write(text);
        check.is("errorPosition() of '" + text + "'", program.errorPosition(), model.errorPosition());
        if (more > 0) {
            for (int i = 0; i < characters.length(); i++) {
                texts(text + characters.charAt(i), characters, more - 1);
            }
        }
    }

    private void houses(String letters, boolean hasGround) {
        if (hasGround) {
            house(letters);
            house(letters + "/1,3");
        }
        if (letters.length() < LEVELS) {
            for (char c : "whjx".toCharArray()) {
                houses(letters + c, hasGround);
            }
            if (!hasGround) {
                houses(letters + "G", true);
            }
        }
    }

    private void house(String text) {
        called(2 + text.length() + LEVELS + 9);
        write(text);
        check.is("load() of " + text, program.load(), model.load());
        for (int l = 0; l < model.now.levels.size(); l++) {
            check.is("level(" + l + ", 1) of " + text, program.level(l, 1), model.level(l, 1));
        }
        for (int what = 0; what <= 8; what++) {
            check.is("about(" + what + ") of " + text, program.about(what), model.about(what));
        }
    }

    private void groups(String text) {
        for (int group = 0; group < 10000; group++) {
            called(1);
            if (group == 0 || calls == 1) {
                calls += 1 + text.length() + 1 + 3;
                write(text);
                program.load();
                model.load();
                check.is("putCar(1)", program.putCar(1), model.putCar(1));
                check.is("putSign(0)", program.putSign(0), model.putSign(0));
                check.is("skip(1, true)", program.skip(1, true), model.skip(1, true));
            }
            check.is("runScript(1, " + group + ") of " + text, program.runScript(1, group),
                    model.runScript(1, group));
        }
    }
}
