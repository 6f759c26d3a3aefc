/** The sentences on commands that stand before the promises. */
final class TextSentences extends SentenceTests {
    private static final String[] COMMANDS = {
        "add 3,10 2", "jump 0 11,4", "handle 0 1", "cloud 8,8", "clear 8,8", "turn 7", "goal 10,2", "keep 5", "step 12",
    };
    private static final String SIXTY = "add 00,00 0;add 02,00 1;add 04,00 2;add 06,00 0;jump 3 11,11";

    private TextSentences() {
    }

    static void run() {
        sixtyCharacters();
        form();
        commands();
        cellsAndNumbers();
        parameters();
        errorPositions();
        keywords();
    }

    private static void wrong(String text, int position) {
        BasketFlock flock = Flocks.type(new BasketFlock(), text);
        fails(ARGUMENT, text, flock::run);
        is("error position of " + text, flock.errorPosition(), position);
    }

    /** Whether the commands can be carried out does not matter. */
    private static void right(String text) {
        BasketFlock flock = Flocks.type(new BasketFlock(), text);
        Flocks.outcome(flock::run);
        fails(NONE, text + " has no error position", flock::errorPosition);
    }

    private static void sixtyCharacters() {
        test(0, "The command text is a buffer of at most 60 characters.", () -> {
            BasketFlock flock = Flocks.type(new BasketFlock(), SIXTY);
            fails(STATE, "a character more", () -> flock.append(';'));
            is("all sixty are carried out", flock.run(), 5);
            is("to the last one", Flocks.cells(flock), "0,0 2,0 4,0 11,11");
            right(SIXTY.substring(0, 59));
            wrong(SIXTY.substring(0, 59) + "x", 59);
            wrong(SIXTY.substring(0, 59) + ";", 60);
        });
    }

    private static void form() {
        test(0, "A command text has the following form", () -> {
            right("step 1");
            right("step 1;step 1");
            right("step 12;step 1");
            right("step 1;step 12");
            right("turn 2;turn 3;turn 4;turn 5;turn 6;turn 7;turn 8;turn 9");
            wrong("step", 4);
            wrong("step 1;", 7);
        });
        test(0, "text = command { \";\" command }", () -> {
            for (String one : COMMANDS) {
                right(one);
                for (String other : COMMANDS) {
                    right(one + ";" + other);
                }
            }
            wrong("", 0);
            wrong(";", 0);
            wrong(";keep 3", 0);
            wrong("keep 3;", 7);
            wrong("keep 3;;keep 4", 7);
            wrong("keep 3,keep 4", 6);
            wrong("keep 3 ;keep 4", 6);
            wrong("keep 3; keep 4", 7);
            wrong("keep 3keep 4", 6);
            wrong("keep 3;keep 4;", 14);
        });
    }

    /** The answers and error positions of both writings for a text with each character behind it. */
    private static void sameWithEachCharacter(String text) {
        StringBuilder got = new StringBuilder();
        StringBuilder due = new StringBuilder();
        for (char last = 32; last <= 126; last++) {
            BasketFlock flock = Flocks.type(new BasketFlock(), text + last);
            PlainFlock plain = new PlainFlock();
            for (char character : (text + last).toCharArray()) {
                plain.append(character);
            }
            got.append(' ').append(last).append(Flocks.outcome(flock::run)).append(Flocks.outcome(flock::errorPosition));
            due.append(' ').append(last).append(Flocks.outcome(plain::run)).append(Flocks.outcome(plain::errorPosition));
        }
        is("each character behind " + text, got.toString(), due.toString());
    }

    private static void commands() {
        test(0, "command = \"add \" cell \" \" digit", () -> {
            for (String command : COMMANDS) {
                right(command);
                for (int length = 0; length <= command.length(); length++) {
                    sameWithEachCharacter(command.substring(0, length));
                    sameWithEachCharacter("keep 3;" + command.substring(0, length));
                }
                wrong(command.substring(0, command.indexOf(' ')), command.indexOf(' '));
                wrong(command.substring(0, command.indexOf(' ') + 1), command.indexOf(' ') + 1);
                wrong(command.replaceFirst(" ", ""), command.indexOf(' '));
                wrong(command.replaceFirst(" ", "  "), command.indexOf(' ') + 1);
                wrong(command + " ", command.length());
                wrong(" " + command, 0);
            }
            wrong("add 1,1", 7);
            wrong("add 1,1 ", 8);
            wrong("add 1,1 22", 9);
            wrong("add 1,1,2", 7);
            wrong("jump 10 1,1", 6);
            wrong("jump 1,1", 6);
            wrong("jump 1 1 1", 8);
            wrong("handle 10 1", 8);
            wrong("handle 1 10", 10);
            wrong("handle 1,1", 8);
            wrong("cloud 1 1", 7);
            wrong("clear 1", 7);
            wrong("turn 12", 6);
            wrong("goal 1", 6);
            wrong("keep 03", 6);
            wrong("step 1,1", 6);
        });
    }

    private static void cellsAndNumbers() {
        test(0, "cell = number \",\" number", () -> {
            right("goal 1,2");
            right("goal 11,2");
            right("goal 1,22");
            right("goal 99,99");
            wrong("goal ,2", 5);
            wrong("goal 1,", 7);
            wrong("goal 1", 6);
            wrong("goal 12", 7);
            wrong("goal 1,,2", 7);
            wrong("goal 1;2", 6);
            wrong("goal 1, 2", 7);
            wrong("goal 1 ,2", 6);
            wrong("goal 1,2,3", 8);
        });
        test(0, "number = digit [ digit ]", () -> {
            for (int number = 0; number <= 99; number++) {
                BasketFlock flock = Flocks.type(new BasketFlock(), "step " + (number < 10 ? "0" : "") + number);
                boolean fits = number >= 1 && number <= 20;
                is("two digits " + number, Flocks.outcome(flock::run), fits ? "1" : "throws.IllegalStateException");
                is("the steps of " + number, flock.stepCount(), fits ? number : 0);
            }
            for (int number = 1; number <= 9; number++) {
                BasketFlock flock = new BasketFlock();
                is("one digit " + number, Flocks.run(flock, "step " + number), 1);
                is("the steps of " + number, flock.stepCount(), number);
            }
            wrong("step ", 5);
            wrong("step 001", 7);
            wrong("step 123", 7);
            wrong("step 1x", 6);
            wrong("step x", 5);
            wrong("step -1", 5);
            wrong("step +1", 5);
            wrong("step /", 5);
            wrong("step :", 5);
            wrong("step 1/", 6);
            wrong("step 1:", 6);
        });
    }

    private static BasketFlock after(String text) {
        BasketFlock flock = Flocks.at(0, 0, 5, 5);
        is(text, Flocks.run(flock, text), 1);
        return flock;
    }

    private static void parameters() {
        test(0, "The commands call addBasket(), jump(), setHandle()", () -> {
            is("add x, y", Flocks.cells(after("add 3,7 2")), "0,0 5,5 3,7");
            is("add handle", after("add 3,7 2").handleOf(2), 2);
            is("add with two digits", Flocks.cells(after("add 10,11 1")), "0,0 5,5 10,11");
            is("jump basket, x, y", Flocks.cells(after("jump 1 3,9")), "0,0 3,9");
            is("jump with two digits", Flocks.cells(after("jump 0 11,10")), "11,10 5,5");
            is("handle basket, handle", after("handle 1 2").handleOf(1), 2);
            is("handle of no other basket", after("handle 1 2").handleOf(0), 0);
            is("cloud x, y", after("cloud 3,8").isCloud(3, 8), true);
            is("cloud with two digits", after("cloud 11,10").isCloud(11, 10), true);
            BasketFlock cleared = Flocks.withClouds(new BasketFlock(), 3, 8, 8, 3);
            is("clear", Flocks.run(cleared, "clear 3,8"), 1);
            is("clear x, y", cleared.isCloud(3, 8), false);
            is("clear no other cell", cleared.isCloud(8, 3), true);
            is("turn steps", after("turn 7").turnLength(), 7);
            is("goal x", after("goal 2,10").targetX(), 2);
            is("goal y", after("goal 2,10").targetY(), 10);
            is("keep distance", after("keep 5").keep(), 5);
            is("step steps", after("step 13").stepCount(), 13);
        });
    }

    private static void errorPositions() {
        test(0, "The error position of a text is the index of the first character", () -> {
            wrong("x", 0);
            wrong("xadd 0,0 0", 0);
            wrong("5", 0);
            wrong("aud", 1);
            wrong("add x", 4);
            wrong("add 1x", 5);
            wrong("add 12x", 6);
            wrong("add 123", 6);
            wrong("add 1,1 1x", 9);
            wrong("keep 3;x", 7);
            wrong("keep 3;keep 33", 13);
            wrong("keep 9;turn 0;x;y", 14);
            wrong("turn 3;turn 3;turn 3;turn 3;turn 3;turn 3;turn 3;turn 3;turx", 59);
            wrong("turn 3;turn 3;turn 3;turn 3;turn 3;turn 3;turn 3;turn 3x", 55);
        });
        test(0, "If every character can, the error position is the length of the text.", () -> {
            wrong("", 0);
            for (String command : COMMANDS) {
                for (int length = 0; length < command.lastIndexOf(' ') + 1; length++) {
                    wrong(command.substring(0, length), length);
                    wrong(command + ";" + command.substring(0, length), command.length() + 1 + length);
                }
            }
            wrong("turn 3;turn 3;turn 3;turn 3;turn 3;turn 3;turn 3;turn 3;turn", 60);
        });
    }

    private static void keywords() {
        test(0, "Keywords are matched character by character.", () -> {
            wrong("c", 1);
            wrong("cl", 2);
            wrong("clx", 2);
            wrong("clo", 3);
            wrong("cle", 3);
            wrong("clea", 4);
            wrong("cloar 1,1", 3);
            wrong("cleud 1,1", 3);
            wrong("clo 1,1", 3);
            wrong("clear1,1", 5);
            wrong("clouds 1,1", 5);
            wrong("ADD 0,0 0", 0);
            wrong("aDd 0,0 0", 1);
            wrong("adD 0,0 0", 2);
            wrong("addd 0,0 0", 3);
            wrong("kepe 3", 2);
            wrong("keep\"3", 4);
            wrong("turm 3", 3);
            wrong("goat 1,1", 3);
            wrong("stem 1", 3);
            wrong("hand 0 0", 4);
            wrong("jumb 0 0,0", 3);
            wrong("jump# 0,0", 4);
        });
    }
}
