import java.util.regex.Pattern;

/** Promises 52 to 55: command texts and how they go wrong. */
final class TextSentences extends SentenceTest {
    private static final String[] COMMANDS = {"lamp 0 1", "remove 0", "oil 100", "wick 10", "give 0 1", "bright 0 2",
        "on 0", "off 0", "moth 0", "cap 5", "night", "pay", "buy 0 1"};
    private static final Pattern COMMAND = Pattern.compile("lamp \\d \\d|remove \\d|oil \\d{1,3}|wick \\d{1,3}|"
            + "give \\d \\d|bright \\d \\d|on \\d|off \\d|moth \\d|cap \\d|night|pay|buy \\d \\d{1,3}");
    /** The most commands that can all succeed. */
    private static final String TWELVE = "on 0;".repeat(11) + "on 0";
    private static final String SIXTY = "on 0;".repeat(11) + "off 0";

    static void test() {
        type();
        typeRefused();
        execute();
        allOrNone();
        failingMethods();
        commandsStand();
        executeRefused();
        grammar();
        errorPositions();
        errorPosition();
        failedCommand();
    }

    private static LampCooperative filled(int characters) {
        LampCooperative x = new LampCooperative();
        type(x, "x".repeat(characters));
        return x;
    }

    private static void type() {
        sentence(52, "Appends a character to the text buffer.", () -> {
            LampCooperative x = new LampCooperative();
            for (char character : "lamp 3 9".toCharArray()) {
                x.type(character);
            }
            due("execute()", x.execute(), 1);
            due("lamp", x.streetOf(0) + " " + x.sharesOf(0), "3 9");
        });
        sentence(52, "`character`: the character", () -> {
            for (char character = 32; character <= 126; character++) {
                due("type((char) " + (int) character + ")", new LampCooperative().type(character), 1);
            }
        });
        sentence(52, "Returns the number of characters in the buffer.", () -> {
            LampCooperative x = new LampCooperative();
            for (int length = 1; length <= 60; length++) {
                due("type", x.type('x'), length);
            }
            outcome(x::execute);
            due("type after execute", x.type('x'), 1);
        });
        sentence(52, "Characters are collected in a buffer of at most 60 characters.", () -> {
            LampCooperative x = withLamps(1);
            type(x, SIXTY);
            dueThrow("type of the character 61", STATE, () -> x.type('x'));
            due("execute of 60 characters", x.execute(), 12);
            due("isOn(0)", x.isOn(0), false);
        });
    }

    private static void typeRefused() {
        NumberedCall typed = (x, character) -> x.type((char) character);
        int[] outside = {0, 10, 31, 127, 128, 160, 255, 256 + 32, 65535};
        sentence(52, "Throws `IllegalArgumentException` if the character is not from 32 to 126", () -> {
            refusesNumbers(LampCooperative::new, "type", ARGUMENT, typed, outside);
            refusesNumbers(SentenceTest::lived, "type", ARGUMENT, typed, outside);
        });
        sentence(52, "Throws `IllegalStateException` if the buffer contains 60 characters", () -> {
            LampCooperative x = filled(59);
            due("type into a buffer of 59", x.type('~'), 60);
            dueThrow("type into a buffer of 60", STATE, () -> x.type('~'));
            dueThrow("type into a buffer of 60", STATE, () -> x.type(' '));
            outcome(x::execute);
            due("type into an empty buffer", x.type('~'), 1);
        });
        sentence(52, FIRST_EXCEPTION, () -> {
            for (int character : outside) {
                LampCooperative x = filled(60);
                dueThrow("type((char) " + character + ") into a full buffer", ARGUMENT, () -> typed.on(x, character));
            }
        });
    }

    private static void execute() {
        String empty = "Executes the text in the buffer, which is empty afterwards.";
        sentence(53, empty, () -> {
            LampCooperative x = new LampCooperative();
            due("execute", run(x, "night"), 1);
            due("nightCount()", x.nightCount(), 1);
            dueThrow("execute of what is left of a good text", ARGUMENT, x::execute);
            due("errorPosition()", x.errorPosition(), 0);
            due("nightCount()", x.nightCount(), 1);
        });
        sentence(53, empty, () -> {
            LampCooperative x = withLamps(1);
            due("execute of 59 characters", run(x, TWELVE), 12);
            due("type after them", x.type('n'), 1);
        });
        sentence(53, "except that execute empties the text buffer.", () -> {
            LampCooperative x = withLamps(1);
            type(x, "night;x");
            dueThrow("execute of a malformed text", ARGUMENT, x::execute);
            due("execute of a good text after it", run(x, "night"), 1);
            type(x, "night;on 1");
            dueThrow("execute of a failing text", STATE, x::execute);
            due("execute of a good text after it", run(x, "night"), 1);
            due("nightCount()", x.nightCount(), 2);
        });
        sentence(53, "Returns the number of commands.", () -> {
            LampCooperative x = withLamps(1);
            due("execute of one", run(x, "on 0"), 1);
            due("execute of two", run(x, "on 0;on 0"), 2);
            due("execute of twelve", run(x, TWELVE), 12);
        });
    }

    private static void allOrNone() {
        String order = "The commands are executed in order, all of them or none: if a command fails, "
                + "the effects of the commands before it are taken back.";
        sentence(53, order, () -> {
            LampCooperative x = new LampCooperative();
            due("execute", run(x, "lamp 0 9;lamp 1 1;remove 0;lamp 2 2;bright 0 5;bright 1 3"), 6);
            due("stateView", stateView(x), "0: street 1 shares 1 brightness 5 on true oil 0 wick 0 balance 0\n"
                    + "1: street 2 shares 2 brightness 3 on true oil 0 wick 0 balance 0\n"
                    + "reserve 0 pool 0 treasury 0 nights 0");
        });
        sentence(53, order, () -> {
            LampCooperative x = lived();
            outcome(x::execute);
            String before = view(x);
            for (String command : new String[] {"lamp 0 1", "remove 0", "oil 200", "wick 50", "give 0 1", "bright 0 2",
                "on 1", "off 0", "moth 1", "cap 1", "night", "night;pay", "oil 200;buy 0 1"}) {
                type(x, command + ";cap 0");
                dueThrow("execute of \"" + command + ";cap 0\"", STATE, x::execute);
            }
            due("the state after texts that failed at their end", view(x), before);
            due("isBalanced()", x.isBalanced(), true);
        });
        sentence(53, order, () -> {
            LampCooperative x = lived();
            outcome(x::execute);
            type(x, "cap 0;night");
            dueThrow("execute of \"cap 0;night\"", STATE, x::execute);
            due("nightCount() when the command before it failed", x.nightCount(), 1);
            due("failedCommand()", x.failedCommand(), 0);
        });
        sentence(53, "A method that throws an exception leaves the state unchanged", () -> {
            for (String text : new String[] {"night;night;x", "off 0;moth 1;on 7", "remove 0;remove 0;pay", ""}) {
                LampCooperative x = lived();
                LampCooperative twin = lived();
                outcome(x::execute);
                type(x, text);
                outcome(x::execute);
                due("the state after \"" + text + "\"", view(x), view(twin));
                due("what follows after \"" + text + "\"", future(x), future(twin));
            }
        });
    }

    private static void failingMethods() {
        String fails = "A command fails if the method for it would throw an exception.";
        sentence(53, fails, () -> {
            fails(withLamps(1, 1, 1, 1, 1, 1, 1, 1), "lamp 0 1", 0);
            fails(withLamps(1, 1, 1, 1, 1, 1, 1), "lamp 3 9;lamp 0 1", 1);
        });
        failing("lamp 4 1", "lamp 9 1", "lamp 0 0");
        failing("remove 1", "remove 9");
        failing("oil 0", "oil 201", "oil 999", "remove 0;oil 1");
        failing("wick 0", "wick 000", "wick 51", "wick 50;wick 50");
        failing("give 1 1", "give 0 0", "give 0 1", "wick 9;give 0 9;give 0 1", "wick 8;give 0 9");
        failing("bright 1 1", "bright 0 0", "bright 0 6", "bright 0 9");
        failing("on 1", "on 9");
        failing("off 1", "off 8");
        failing("moth 1", "moth 0;moth 0;moth 0;moth 0;moth 0;moth 0;moth 0");
        failing("cap 0", "cap 6", "cap 9", "remove 0;cap 5");
        failing("pay", "night;pay;pay", "night;remove 0;pay");
        failing("buy 1 1", "buy 0 0", "buy 0 61", "buy 0 999", "night;pay;buy 0 1", "oil 61;buy 0 1");
        sentence(53, fails, () -> {
            LampCooperative x = oneLamp(0, 9, 1);
            x.donateWicks(50);
            x.donateWicks(49);
            fails(x, "remove 0", 0);
            fails(x, "night;wick 1", 1);
        });
    }

    /** Each text fails at its last command on an object with one lamp. */
    private static void failing(String... texts) {
        sentence(53, "A command fails if the method for it would throw an exception.", () -> {
            for (String text : texts) {
                fails(withLamps(1), text, text.split(";").length - 1);
            }
        });
    }

    private static void commandsStand() {
        stand("lamp 3 9", x -> x.addLamp(3, 9));
        stand("remove 1", x -> x.removeLamp(1));
        stand("oil 7", x -> x.deliverOil(7));
        stand("oil 200", x -> x.deliverOil(200));
        stand("wick 1", x -> x.donateWicks(1));
        stand("wick 050", x -> x.donateWicks(50));
        stand("give 4 2", x -> x.giveWick(4, 2));
        stand("bright 2 5", x -> x.setBrightness(2, 5));
        stand("bright 5 2", x -> x.setBrightness(5, 2));
        stand("off 6", x -> x.switchOff(6));
        stand("on 5", x -> x.switchOn(5));
        stand("moth 3", x -> x.addMoth(3));
        stand("cap 1", x -> x.proposeCap(1));
        stand("cap 2", x -> x.proposeCap(2));
        stand("cap 4", x -> x.proposeCap(4));
        stand("night", LampCooperative::burnNight);
        stand("pay", LampCooperative::payDividend);
        stand("buy 1 2", x -> x.buyOil(1, 2));
        stand("buy 2 001", x -> x.buyOil(2, 1));
    }

    private static void stand(String text, Call method) {
        sentence(53, "The commands stand for addLamp, removeLamp, deliverOil, donateWicks, giveWick, setBrightness, "
                + "switchOn, switchOff, addMoth, proposeCap, burnNight, payDividend and buyOil, "
                + "with their parameters in order.", () -> {
            LampCooperative byText = sevenLamps();
            LampCooperative byCall = sevenLamps();
            due("execute of \"" + text + "\"", run(byText, text), text.split(";").length);
            method.on(byCall);
            due("the state after \"" + text + "\"", stateView(byText), stateView(byCall));
            due("isBalanced() after \"" + text + "\"", byText.isBalanced(), true);
        });
    }

    /** Room for a lamp and a moth, coins in the treasury, a lamp of each brightness and one that is off. */
    private static LampCooperative sevenLamps() {
        LampCooperative x = fullHouse();
        x.undo();
        x.removeLamp(7);
        for (int lamp = 0; lamp < 5; lamp++) {
            x.setBrightness(lamp, lamp + 1);
        }
        x.switchOff(5);
        return x;
    }

    private static void executeRefused() {
        sentence(53, "Throws `IllegalArgumentException` if the text is malformed; its error position is stored", () -> {
            LampCooperative x = new LampCooperative();
            malformed(x, "", 0);
            malformed(x, ";", 0);
            malformed(x, "night;", 6);
            malformed(x, "night;night;nigh_", 16);
        });
        sentence(53, "Throws `IllegalStateException` if a command fails; its index is stored", () -> {
            LampCooperative x = withLamps(1);
            fails(x, "on 1", 0);
            fails(x, "on 0;on 1;on 2", 1);
            fails(x, TWELVE.replaceAll("0$", "1"), 11);
            fails(x, "pay;".repeat(14) + "pay", 0);
        });
        sentence(53, FIRST_EXCEPTION, () -> {
            LampCooperative x = withLamps(1);
            malformed(x, "on 1;x", 5);
            malformed(x, "on 9 ", 4);
            malformed(x, "night;on 1;on 2;", 16);
            dueThrow("failedCommand() after malformed texts", NO_ELEMENT, x::failedCommand);
        });
    }

    private static void grammar() {
        String grammar = "A command text has the following grammar, with terminals in quotes: "
                + "text = command { \";\" command };";
        for (String command : COMMANDS) {
            sentence(53, grammar, () -> {
                due("execute of \"" + command + "\"", run(sevenLamps(), command), 1);
                due("execute with another", run(sevenLamps(), "on 0;" + command + ";off 0"), 3);
                malformed(new LampCooperative(), command + ";", command.length() + 1);
                malformed(new LampCooperative(), ";" + command, 0);
                malformed(new LampCooperative(), command + ";;" + command, command.length() + 1);
                malformed(new LampCooperative(), command + "; " + command, command.length() + 1);
                malformed(new LampCooperative(), command + " ;" + command, command.length());
                malformed(new LampCooperative(), command + command, command.length());
                malformed(new LampCooperative(), command.toUpperCase(), 0);
                malformed(new LampCooperative(), " " + command, 0);
            });
        }
        sentence(53, "digit is a blank and a decimal digit,", () -> {
            for (int digit = 0; digit < 8; digit++) {
                due("execute of \"on " + digit + "\"", run(eightLamps(), "on " + digit), 1);
            }
            fails(eightLamps(), "on 8", 0);
            fails(eightLamps(), "on 9", 0);
            malformed(new LampCooperative(), "on /", 3);
            malformed(new LampCooperative(), "on :", 3);
            malformed(new LampCooperative(), "on0", 2);
            malformed(new LampCooperative(), "on  0", 3);
            malformed(new LampCooperative(), "on 00", 4);
            malformed(new LampCooperative(), "lamp 0 11", 8);
            malformed(new LampCooperative(), "lamp 01", 6);
        });
        sentence(53, "and number is a blank and one to three decimal digits.", () -> {
            LampCooperative x = withLamps(1);
            for (String number : new String[] {"1", "01", "001", "9", "09", "10", "010", "100", "200"}) {
                due("execute of \"oil " + number + "\"", run(x, "oil " + number), 1);
            }
            due("oil", x.oilOf(0) + x.reserve(), 1 + 1 + 1 + 9 + 9 + 10 + 10 + 100 + 200);
            fails(x, "oil 999", 0);
            malformed(x, "oil 0001", 7);
            malformed(x, "oil  1", 4);
            malformed(x, "oil 1 1", 5);
            malformed(x, "buy 0 0001", 9);
            malformed(x, "oil /", 4);
            malformed(x, "oil 9:", 5);
        });
    }

    private static boolean wellFormed(String text) {
        for (String command : text.split(";", -1)) {
            if (!COMMAND.matcher(command).matches()) {
                return false;
            }
        }
        return true;
    }

    private static void errorPositions() {
        sentence(54, "or its length if it ends too early.", () -> {
            for (String command : COMMANDS) {
                String text = "pay;" + command;
                for (int length = 0; length < text.length(); length++) {
                    String start = text.substring(0, length);
                    if (!wellFormed(start)) {
                        malformed(new LampCooperative(), start, length);
                    }
                }
            }
        });
        sentence(54, "or its length if it ends too early.", () -> {
            malformed(new LampCooperative(), "", 0);
            malformed(new LampCooperative(), "pay;".repeat(15), 60);
            malformed(new LampCooperative(), "pay;".repeat(13) + "night;pa", 60);
        });
        sentence(54, "is the index of its first character that cannot continue any valid text", () -> {
            for (String command : COMMANDS) {
                String text = "pay;" + command;
                for (int length = 0; length <= text.length(); length++) {
                    malformed(new LampCooperative(), text.substring(0, length) + "~" + text.substring(length), length);
                }
            }
        });
        sentence(54, "is the index of its first character that cannot continue any valid text", () -> {
            malformed(new LampCooperative(), "pay;".repeat(14) + "pay!", 59);
            malformed(new LampCooperative(), "x;night;x", 0);
            // What two commands begin with alike, and what none goes on with.
            malformed(new LampCooperative(), "bx", 1);
            malformed(new LampCooperative(), "brx", 2);
            malformed(new LampCooperative(), "bux", 2);
            malformed(new LampCooperative(), "ox", 1);
            malformed(new LampCooperative(), "onn", 2);
            malformed(new LampCooperative(), "ofx", 2);
            malformed(new LampCooperative(), "oix", 2);
        });
    }

    private static void errorPosition() {
        sentence(54, "Returns the error position of the last malformed text.", () -> {
            LampCooperative x = withLamps(1);
            malformed(x, "night;x", 6);
            type(x, "nigh");
            dueThrow("execute of \"nigh\"", ARGUMENT, x::execute);
            due("errorPosition()", x.errorPosition(), 4);
            due("execute of a good text", run(x, "night"), 1);
            due("errorPosition() after a good text", x.errorPosition(), 4);
            type(x, "on 1");
            dueThrow("execute of a failing text", STATE, x::execute);
            due("errorPosition() after a failing text", x.errorPosition(), 4);
        });
        sentence(54, "Returns the error position.", () -> {
            LampCooperative x = new LampCooperative();
            dueThrow("execute of an empty text", ARGUMENT, x::execute);
            due("errorPosition(), the smallest", x.errorPosition(), 0);
            type(x, "night;".repeat(10));
            dueThrow("execute of a text of 60 characters", ARGUMENT, x::execute);
            due("errorPosition(), the greatest", x.errorPosition(), 60);
        });
        sentence(54, "Throws `NoSuchElementException` if no text was malformed so far", () -> {
            refusedAlike(LampCooperative::new, "errorPosition()", NO_ELEMENT, LampCooperative::errorPosition);
            refusedAlike(() -> {
                LampCooperative x = withLamps(1);
                run(x, "night");
                type(x, "on 1");
                outcome(x::execute);
                type(x, "~");
                return x;
            }, "errorPosition() after other texts", NO_ELEMENT, LampCooperative::errorPosition);
        });
    }

    private static void failedCommand() {
        sentence(55, "Returns the index of the command that failed in the last text that had one.", () -> {
            LampCooperative x = withLamps(1);
            fails(x, "on 0;on 0;on 1", 2);
            due("execute of a good text", run(x, "on 0"), 1);
            due("failedCommand() after a good text", x.failedCommand(), 2);
            malformed(x, "on 1;on", 7);
            due("failedCommand() after a malformed text", x.failedCommand(), 2);
            fails(x, "on 0;on 1;on 1", 1);
        });
        sentence(55, "Returns the index of the command, from 0.", () -> {
            fails(withLamps(1), "on 1", 0);
            fails(withLamps(1), "off 1;on 0", 0);
            fails(withLamps(1), TWELVE.replaceAll("0$", "9"), 11);
        });
        sentence(55, "Throws `NoSuchElementException` if no command failed so far", () -> {
            refusedAlike(LampCooperative::new, "failedCommand()", NO_ELEMENT, LampCooperative::failedCommand);
            refusedAlike(() -> {
                LampCooperative x = withLamps(1);
                run(x, "night");
                type(x, "on 1;");
                outcome(x::execute);
                return x;
            }, "failedCommand() after other texts", NO_ELEMENT, LampCooperative::failedCommand);
        });
    }
}
