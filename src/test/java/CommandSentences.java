/** The sentences of promises 44 to 47. */
final class CommandSentences extends SentenceTests {
    /** Eight commands, as many as a command text can hold. */
    private static final String EIGHT = "turn 2;turn 3;turn 4;turn 5;turn 6;turn 7;turn 8;turn 9";
    private static final String SIXTY = "add 00,00 0;add 02,00 1;add 04,00 2;add 06,00 0;jump 3 11,11";

    private CommandSentences() {
    }

    static void run() {
        append();
        appendFails();
        inOrder();
        allOrNone();
        emptyAfterwards();
        failedCommands();
        refusals();
        runFails();
        errorPosition();
        failedCommand();
    }

    private static void wrong(BasketFlock flock, String text, int position) {
        fails(ARGUMENT, "a wrong text " + text, () -> Flocks.run(flock, text));
        is("error position of " + text, flock.errorPosition(), position);
    }

    private static void failing(BasketFlock flock, String text, int command) {
        fails(STATE, "a failing text " + text, () -> Flocks.run(flock, text));
        is("failed command of " + text, flock.failedCommand(), command);
    }

    private static void append() {
        test(44, "Appends a character to the command text.", () -> {
            BasketFlock flock = Flocks.type(new BasketFlock(), "keep ");
            flock.append('5');
            is("behind the others", flock.run(), 1);
            is("as it was typed", flock.keep(), 5);
        });
        test(44, "`character`: the character", () -> {
            for (int code = 32; code <= 126; code++) {
                is("code " + code, new BasketFlock().append((char) code), 1);
            }
        });
        test(44, "Returns the length of the command text after the call.", () -> {
            BasketFlock flock = new BasketFlock();
            keepsEach("length", 1, 60, length -> flock.append('a'));
        });
    }

    private static void appendFails() {
        test(44, "Throws `IllegalArgumentException`", () -> {
            BasketFlock flock = new BasketFlock();
            for (int code : new int[] {31, 127, 0, 9, 10, 128, 255, 256, 32 + 256, 32768 + 65, 65535}) {
                fails(ARGUMENT, "code " + code, () -> flock.append((char) code));
            }
            is("nothing was appended", flock.append('a'), 1);
        });
        test(44, "Throws `IllegalStateException`", () -> {
            BasketFlock flock = Flocks.type(new BasketFlock(), SIXTY.substring(0, 59));
            is("the sixtieth character", flock.append('1'), 60);
            fails(STATE, "the next one", () -> flock.append('1'));
            is("the text stays", flock.run(), 5);
            is("a run makes room", flock.append('a'), 1);
        });
    }

    private static void inOrder() {
        test(45, "Parses the command text and carries out its commands in order.", () -> {
            BasketFlock flock = new BasketFlock();
            is("a later one undoes an earlier one", Flocks.run(flock, "cloud 5,5;clear 5,5"), 2);
            is("no cloud is left", flock.cloudCount(), 0);
            Flocks.run(flock, "turn 3;turn 9;turn 5");
            is("the last one stands", flock.turnLength(), 5);
            Flocks.run(flock, "add 0,0 1;add 5,0 2;goal 0,9;keep 6;step 1;keep 2");
            is("a step with the keep before it", Flocks.cells(flock), "0,1 5,0");
            is("the keep behind it", flock.keep(), 2);
            BasketFlock full = new BasketFlock();
            is("a full text", Flocks.run(full, SIXTY), 5);
            is("from the first command to the last one", Flocks.cells(full), "0,0 2,0 4,0 11,11");
        });
        test(45, "Returns the number of commands.", () -> keepsEach("commands", 1, 8, count ->
                Flocks.run(new BasketFlock(), EIGHT.substring(0, 7 * count - 1))));
    }

    /** Something of everything; seven changes can be undone. */
    private static BasketFlock filled() {
        BasketFlock flock = Flocks.withClouds(Flocks.at(5, 5, 7, 5), 0, 0);
        flock.setTarget(9, 9);
        flock.advance(2);
        flock.setHandle(0, 1);
        flock.setKeep(4);
        return flock;
    }

    private static void allOrNone() {
        test(45, "Either all commands are carried out, or none.", () -> {
            String[] texts = {
                "add 0,5 0;jump 0 2,2;handle 1 2;cloud 0,3;clear 0,0;keep 7", "turn 8;goal 1,1;keep 2;step 20;turn 1",
                "step 20;step 20;step 21", "turn 10", "step 5;x", "jump 0 2,2;step 5;", "keep 5;keep", "",
            };
            for (String text : texts) {
                BasketFlock flock = filled();
                String before = Flocks.describe(flock);
                try {
                    Flocks.run(flock, text);
                } catch (IllegalArgumentException | IllegalStateException due) {
                    is("none of " + text, Flocks.describe(flock), before);
                }
                is("no change by " + text, flock.undo(), 6);
            }
            BasketFlock flock = filled();
            is("all", Flocks.run(flock, "add 0,5 0;jump 0 2,2;handle 1 2;cloud 0,3;clear 0,0;keep 6"), 6);
            is("all baskets", flock.basketCount() * 10 + flock.basketAt(2, 2), 30);
            is("all clouds", flock.isCloud(0, 3) && !flock.isCloud(0, 0), true);
            is("the handle and the keep", flock.handleOf(1) * 10 + flock.keep(), 26);
            is("in one change", flock.undo(), 7);
            is("all is undone", Flocks.describe(flock), Flocks.describe(filled()));
        });
    }

    private static void emptyAfterwards() {
        test(45, "The command text is empty after the call, also if an exception is thrown.", () -> {
            BasketFlock flock = new BasketFlock();
            Flocks.run(flock, "turn 3");
            is("after a good one", flock.append('x'), 1);
            wrong(flock, "", 0);
            is("after a wrong one", flock.append('k'), 1);
            failing(flock, "eep 7", 0);
            is("after a failing one", flock.append('a'), 1);
            wrong(flock, "", 1);
            wrong(flock, "", 0);
            is("after an empty one", flock.append('a'), 1);
            wrong(flock, SIXTY.substring(1, 59) + "x", 59);
            is("after a full one", flock.append('a'), 1);
        });
    }

    private static void failedCommands() {
        test(45, "The first command whose method would throw an exception is the failed command.", () -> {
            failing(new BasketFlock(), "keep 1", 0);
            failing(new BasketFlock(), "keep 2;keep 1;turn 1;keep 0", 1);
            failing(new BasketFlock(), EIGHT.substring(0, 54) + "1", 7);
            failing(new BasketFlock(), "add 0,0 0;add 0,1 0", 1);
            failing(new BasketFlock(), "add 0,0 3", 0);
            failing(new BasketFlock(), "add 12,0 0", 0);
            failing(new BasketFlock(), "jump 0 1,1", 0);
            failing(Flocks.full(), "jump 9 11,11;add 0,9 0", 1);
            failing(new BasketFlock(), "add 0,0 0;jump 0 0,12", 1);
            failing(Flocks.at(5, 5), "handle 0 2;handle 0 3", 1);
            failing(Flocks.at(5, 5), "handle 1 0", 0);
            failing(Flocks.at(5, 5), "cloud 5,5", 0);
            failing(new BasketFlock(), "cloud 5,5;cloud 5,5", 1);
            failing(new BasketFlock(), "cloud 5,5;clear 5,5;clear 5,5", 2);
            failing(new BasketFlock(), "clear 12,0", 0);
            failing(new BasketFlock(), "turn 1", 0);
            failing(new BasketFlock(), "goal 1,1", 0);
            failing(new BasketFlock(), "add 1,1 0;goal 1,12", 1);
            failing(new BasketFlock(), "step 20;step 21", 1);
            failing(new BasketFlock(), "step 0", 0);
            BasketFlock clouds = Flocks.withClouds(new BasketFlock(), 0, 0, 1, 0, 2, 0, 3, 0, 4, 0, 5, 0, 6, 0);
            failing(clouds, "cloud 7,0;cloud 8,0", 1);
            is("what would fail alone", Flocks.run(new BasketFlock(), "add 0,0 0;jump 0 0,1;goal 9,9"), 3);
        });
    }

    private static void refusals() {
        test(45, "If its placing is refused, the refusal is kept.", () -> {
            BasketFlock flock = Flocks.withClouds(Flocks.at(5, 5, 0, 0), 9, 9, 9, 0);
            failing(flock, "add 9,9 0", 0);
            is("a cloud", flock.refusalReason() * 10 + flock.refusalDetail(), 12);
            failing(flock, "jump 1 5,6", 0);
            is("a basket", flock.refusalReason() * 10 + flock.refusalDetail(), 20);
            failing(flock, "clear 9,0;jump 0 9,9", 1);
            is("the number of clouds at its turn", flock.refusalReason() * 10 + flock.refusalDetail(), 11);
            failing(flock, "add 3,3 0;jump 0 3,4", 1);
            is("a basket that was added before", flock.refusalReason() * 10 + flock.refusalDetail(), 22);
            failing(flock, "cloud 0,0", 0);
            failing(flock, "add 12,0 0", 0);
            failing(flock, "jump 2 9,9", 0);
            failing(flock, "keep 9;add 9,9 0", 0);
            wrong(flock, "add 9,9 0;", 10);
            is("no placing was refused", flock.refusalReason() * 10 + flock.refusalDetail(), 22);
            BasketFlock never = Flocks.at(5, 5);
            failing(never, "keep 9;add 5,5 0", 0);
            fails(NONE, "a placing behind the failed command", never::refusalReason);
        });
    }

    private static void runFails() {
        test(45, "Throws `IllegalArgumentException` if the text is not a command text", () -> {
            BasketFlock flock = new BasketFlock();
            wrong(flock, "", 0);
            wrong(flock, "keep 3;", 7);
            wrong(flock, "keep 10", 6);
            wrong(flock, "keep 9;keep", 11);
            fails(NONE, "no command has failed", flock::failedCommand);
            failing(flock, "keep 3;keep 9", 1);
            wrong(flock, "keep 9;kep", 9);
            is("the failed command is left", flock.failedCommand(), 1);
        });
        test(45, "Throws `IllegalStateException` if a command fails", () -> {
            BasketFlock flock = new BasketFlock();
            failing(flock, "keep 3;keep 7", 1);
            fails(NONE, "no error position was set", flock::errorPosition);
            wrong(flock, "keep", 4);
            failing(flock, "keep 1", 0);
            is("the error position is left", flock.errorPosition(), 4);
        });
    }

    private static void errorPosition() {
        test(46, "Returns the error position that was set last.", () -> {
            BasketFlock flock = new BasketFlock();
            wrong(flock, "keep 3;;", 7);
            wrong(flock, "x", 0);
            wrong(flock, "turn x", 5);
            Flocks.run(flock, "turn 3");
            is("after a good run", flock.errorPosition(), 5);
            failing(flock, "turn 3;turn 0", 1);
            is("after a failing run", flock.errorPosition(), 5);
            flock.undo();
            is("after undo", flock.errorPosition(), 5);
        });
        test(46, "Returns the error position.", () -> {
            String whole = EIGHT + ";turn";
            for (int length = 0; length < 60; length++) {
                if (length % 7 != 6) {
                    wrong(new BasketFlock(), whole.substring(0, length), length);
                }
                wrong(new BasketFlock(), whole.substring(0, length) + "~", length);
            }
            wrong(new BasketFlock(), whole, 60);
        });
        test(46, "Throws `NoSuchElementException`", () -> {
            BasketFlock flock = new BasketFlock();
            fails(NONE, "a new object", flock::errorPosition);
            Flocks.type(flock, "wrong");
            fails(NONE, "a wrong text that has not run", flock::errorPosition);
            BasketFlock good = new BasketFlock();
            Flocks.run(good, "keep 3");
            fails(NONE, "a good run", good::errorPosition);
            failing(good, "keep 9", 0);
            fails(NONE, "a failing run", good::errorPosition);
        });
    }

    private static void failedCommand() {
        test(47, "Returns the index of the failed command of the latest run in which a command failed.", () -> {
            BasketFlock flock = new BasketFlock();
            failing(flock, "keep 3;keep 4;keep 7", 2);
            failing(flock, "keep 3;keep 7", 1);
            is("a good run", Flocks.run(flock, "keep 3;keep 4;keep 5"), 3);
            is("after a good run", flock.failedCommand(), 1);
            wrong(flock, "keep 7;", 7);
            is("after a wrong text", flock.failedCommand(), 1);
            fails(ARGUMENT, "a failing call that is no command", () -> flock.setKeep(7));
            is("after a failing call", flock.failedCommand(), 1);
            flock.undo();
            is("after undo", flock.failedCommand(), 1);
        });
        test(47, "Returns the index, from 0.", () -> {
            for (int index = 0; index < 8; index++) {
                failing(new BasketFlock(), EIGHT.substring(0, 7 * index + 5) + '0' + EIGHT.substring(7 * index + 6),
                        index);
            }
        });
        test(47, "Throws `NoSuchElementException`", () -> {
            BasketFlock flock = new BasketFlock();
            fails(NONE, "a new object", flock::failedCommand);
            Flocks.run(flock, "keep 4");
            fails(NONE, "a good run", flock::failedCommand);
            wrong(flock, "keep 4;", 7);
            fails(NONE, "a wrong text", flock::failedCommand);
            fails(ARGUMENT, "a failing call that is no command", () -> flock.setKeep(7));
            fails(NONE, "a failing call", flock::failedCommand);
        });
    }
}
