import java.util.NoSuchElementException;

/** Promises 44 to 47. */
final class CommandTests {
    private CommandTests() {
    }

    static void run() {
        append();
        eachCommand();
        severalCommands();
        numbers();
        errorPositions();
        failures();
        allOrNothing();
        refusalInRun();
        whatStays();
    }

    private static void append() {
        BasketFlock flock = new BasketFlock();
        for (int code : new int[] {0, 31, 127, 128, 255, 256, 65535}) {
            Check.fails(44, "append " + code, IllegalArgumentException.class, () -> flock.append((char) code));
        }
        Check.is(44, "append the least", flock.append((char) 32), 1);
        Check.is(44, "append the greatest", flock.append((char) 126), 2);
        for (int length = 3; length <= 60; length++) {
            Check.is(44, "append", flock.append('a'), length);
        }
        Check.fails(44, "append to a full text", IllegalStateException.class, () -> flock.append('a'));
        Check.fails(44, "append a wrong character to a full text", IllegalArgumentException.class,
                () -> flock.append((char) 31));
        Check.fails(45, "run a wrong text", IllegalArgumentException.class, flock::run);
        Check.is(45, "the text is empty after a wrong one", flock.append('a'), 1);
    }

    private static void eachCommand() {
        BasketFlock flock = new BasketFlock();
        Check.is(45, "add", Flocks.run(flock, "add 3,7 2"), 1);
        Check.is(45, "add adds", Flocks.cells(flock) + " " + flock.handleOf(0), "3,7 2");
        Check.is(45, "the text is empty after a run", flock.append('j'), 1);
        Check.is(45, "jump", Flocks.run(flock, "ump 0 11,4"), 1);
        Check.is(45, "jump jumps", Flocks.cells(flock), "11,4");
        Check.is(45, "handle", Flocks.run(flock, "handle 0 1"), 1);
        Check.is(45, "handle sets", flock.handleOf(0), 1);
        Check.is(45, "cloud", Flocks.run(flock, "cloud 10,11"), 1);
        Check.is(45, "cloud adds", flock.isCloud(10, 11), true);
        Check.is(45, "clear", Flocks.run(flock, "clear 10,11"), 1);
        Check.is(45, "clear removes", flock.isCloud(10, 11), false);
        Check.is(45, "turn", Flocks.run(flock, "turn 7"), 1);
        Check.is(45, "turn sets", flock.turnLength(), 7);
        Check.is(45, "goal", Flocks.run(flock, "goal 9,2"), 1);
        Check.is(45, "goal sets", flock.targetX() * 100 + flock.targetY(), 902);
        Check.is(45, "keep", Flocks.run(flock, "keep 5"), 1);
        Check.is(45, "keep sets", flock.keep(), 5);
        Check.is(45, "step", Flocks.run(flock, "step 12"), 1);
        Check.is(45, "step steps", flock.stepCount(), 12);
        Check.is(45, "step moves", Flocks.cells(flock), "9,2");
    }

    private static void severalCommands() {
        BasketFlock flock = new BasketFlock();
        Check.is(45, "eight commands", Flocks.run(flock, "turn 2;turn 3;turn 4;turn 5;turn 6;turn 7;turn 8;turn 9"), 8);
        Check.is(45, "the last one stands", flock.turnLength(), 9);
        String full = "add 00,00 0;add 02,00 1;add 04,00 2;add 06,00 0;step 20;keep";
        Check.is(45, "its length", full.length(), 60);
        Check.fails(45, "a text of 60 characters", IllegalArgumentException.class, () -> Flocks.run(flock, full));
        Check.is(46, "the position behind it", flock.errorPosition(), 60);
        String whole = "add 00,00 0;add 02,00 1;add 04,00 2;add 06,00 0;goal 11,11;s";
        Check.is(45, "five commands", Flocks.run(flock, whole.substring(0, 58)), 5);
        Check.is(45, "in their order", Flocks.cells(flock), "0,0 2,0 4,0 6,0");
        Check.is(53, "each run is one change", flock.undo(), 1);
        Check.is(5, "none is left", flock.basketCount(), 0);
        Check.is(53, "the first run is undone", flock.undo(), 0);
        Check.is(19, "the turn length is back", flock.turnLength(), 4);
    }

    private static void numbers() {
        BasketFlock flock = new BasketFlock();
        Check.is(45, "leading zeros", Flocks.run(flock, "add 03,09 0;step 01"), 2);
        Check.is(45, "leading zeros are read", Flocks.cells(flock), "3,9");
        failsAt(flock, "step 0", 0);
        failsAt(flock, "step 00", 0);
        failsAt(flock, "step 21", 0);
        failsAt(flock, "step 99", 0);
        failsAt(flock, "cloud 12,0", 0);
        failsAt(flock, "cloud 0,99", 0);
        failsAt(flock, "turn 1", 0);
        failsAt(flock, "keep 7", 0);
        failsAt(flock, "handle 0 3", 0);
        failsAt(flock, "handle 9 0", 0);
        failsAt(flock, "jump 1 0,0", 0);
        failsAt(flock, "clear 0,0", 0);
        failsAt(flock, "goal 0,12", 0);
        failsAt(new BasketFlock(), "goal 0,0", 0);
        wrongAt(flock, "turn 10", 6);
        wrongAt(flock, "step 100", 7);
        wrongAt(flock, "add 000,0 0", 6);
    }

    private static void failsAt(BasketFlock flock, String text, int command) {
        Check.fails(45, "run " + text, IllegalStateException.class, () -> Flocks.run(flock, text));
        Check.is(47, "failedCommand of " + text, flock.failedCommand(), command);
    }

    private static void wrongAt(BasketFlock flock, String text, int position) {
        Check.fails(45, "run " + text, IllegalArgumentException.class, () -> Flocks.run(flock, text));
        Check.is(46, "errorPosition of " + text, flock.errorPosition(), position);
    }

    private static void errorPositions() {
        BasketFlock flock = new BasketFlock();
        Check.fails(46, "errorPosition at first", NoSuchElementException.class, flock::errorPosition);
        Check.fails(45, "run of an empty text", IllegalArgumentException.class, flock::run);
        Check.is(46, "errorPosition of an empty text", flock.errorPosition(), 0);
        wrongAt(flock, "x", 0);
        wrongAt(flock, " add 0,0 0", 0);
        wrongAt(flock, "Add 0,0 0", 0);
        wrongAt(flock, ";", 0);
        wrongAt(flock, "5", 0);
        wrongAt(flock, "%", 0);
        wrongAt(flock, "c", 1);
        wrongAt(flock, "cl", 2);
        wrongAt(flock, "clx", 2);
        wrongAt(flock, "clo", 3);
        wrongAt(flock, "clea", 4);
        wrongAt(flock, "cloar", 3);
        wrongAt(flock, "cleud", 3);
        wrongAt(flock, "stop 1", 2);
        wrongAt(flock, "add", 3);
        wrongAt(flock, "add ", 4);
        wrongAt(flock, "add  0,0 0", 4);
        wrongAt(flock, "add 0", 5);
        wrongAt(flock, "add 0 0", 5);
        wrongAt(flock, "add 0,", 6);
        wrongAt(flock, "add 0,0", 7);
        wrongAt(flock, "add 00,00 ", 10);
        wrongAt(flock, "add 0,0 00", 9);
        wrongAt(flock, "add 0,0 0 ", 9);
        wrongAt(flock, "add %,% #", 4);
        wrongAt(flock, "jump 00,0", 6);
        wrongAt(flock, "jump 0,0", 6);
        wrongAt(flock, "jump 0 0 0", 8);
        wrongAt(flock, "handle 0,0", 8);
        wrongAt(flock, "handle 0 #", 9);
        wrongAt(flock, "turn -1", 5);
        wrongAt(flock, "step 1,", 6);
        wrongAt(flock, "step 12;", 8);
        wrongAt(flock, "step 12;;", 8);
        wrongAt(flock, "step 12; step 1", 8);
        wrongAt(flock, "step 1;turn 3;clot", 17);
        wrongAt(flock, "turn 3;turn 3;turn 3;turn 3;turn 3;turn 3;turn 3;turn 3;turn", 60);
        Check.is(30, "nothing was carried out", flock.stepCount(), 0);
        Check.fails(47, "no command has failed", NoSuchElementException.class, flock::failedCommand);
    }

    private static void failures() {
        BasketFlock flock = new BasketFlock();
        Check.fails(47, "failedCommand at first", NoSuchElementException.class, flock::failedCommand);
        failsAt(flock, "turn 3;keep 2;keep 1;turn 1", 2);
        Check.fails(46, "no error position was set", NoSuchElementException.class, flock::errorPosition);
        wrongAt(flock, "turn 3;", 7);
        Check.is(47, "failedCommand stays", flock.failedCommand(), 2);
        failsAt(flock, "turn 1", 0);
        Check.is(46, "errorPosition stays", flock.errorPosition(), 7);
        Check.is(45, "a good run", Flocks.run(flock, "turn 3"), 1);
        Check.is(47, "failedCommand stays after a good run", flock.failedCommand(), 0);
        Check.is(46, "errorPosition stays after a good run", flock.errorPosition(), 7);
        Check.is(45, "a failed run empties the text", failedThenAppend(flock), 1);
    }

    private static int failedThenAppend(BasketFlock flock) {
        failsAt(flock, "turn 3;step 0", 1);
        return flock.append('s');
    }

    private static void allOrNothing() {
        BasketFlock flock = Flocks.withClouds(Flocks.at(5, 5, 7, 5), 0, 0);
        flock.setTarget(9, 9);
        failsAt(flock, "jump 0 2,2;handle 1 2;clear 0,0;goal 1,1;step 9;keep 9", 5);
        Check.is(45, "nobody jumped", Flocks.cells(flock), "5,5 7,5");
        Check.is(45, "no handle was changed", flock.handleOf(1), 1);
        Check.is(45, "no cloud was removed", flock.isCloud(0, 0), true);
        Check.is(45, "no target was set", flock.targetX(), 9);
        Check.is(45, "no step passed", flock.stepCount() + flock.shapeCount() + flock.waitTotal(), 0);
        Check.is(45, "a failed run is no change", flock.undo(), 3);
        Check.fails(45, "the target is undone", NoSuchElementException.class, flock::targetX);
        Check.fails(45, "a wrong text behind good commands", IllegalArgumentException.class,
                () -> Flocks.run(flock, "jump 0 2,2;keep"));
        Check.is(45, "nobody jumped", Flocks.cells(flock), "5,5 7,5");
        Check.is(45, "a later command sees the earlier ones", Flocks.run(flock, "jump 0 0,5;jump 1 5,5;goal 5,5"), 3);
        Check.is(45, "both jumped", Flocks.cells(flock), "0,5 5,5");
    }

    private static void refusalInRun() {
        BasketFlock flock = new BasketFlock();
        failsAt(flock, "keep 2;add 3,3 0;add 5,5 0;add 5,4 0", 3);
        Check.is(12, "the refusal in a run", flock.refusalReason(), 2);
        Check.is(13, "a basket that was there then", flock.refusalDetail(), 1);
        failsAt(flock, "cloud 1,1;cloud 2,2;add 1,1 0", 2);
        Check.is(12, "a cloud that was there then", flock.refusalReason(), 1);
        Check.is(13, "the number of clouds then", flock.refusalDetail(), 2);
        Check.is(17, "no cloud was added", flock.cloudCount(), 0);
        failsAt(flock, "add 1,1 0;add 5,5 0;jump 1 1,2", 2);
        Check.is(12, "a jump that was refused", flock.refusalReason(), 2);
        Check.is(13, "the touched one", flock.refusalDetail(), 0);
        failsAt(flock, "add 1,1 0;cloud 1,1", 1);
        Check.is(13, "a cloud on a basket is no refusal", flock.refusalReason(), 2);
    }

    private static void whatStays() {
        BasketFlock flock = Flocks.at(5, 5);
        failsAt(flock, "turn 1", 0);
        wrongAt(flock, "tx", 1);
        flock.save();
        Flocks.type(flock, "tur");
        flock.undo();
        Check.is(44, "undo leaves the text", flock.append('n'), 4);
        flock.restore();
        Check.is(44, "restore leaves the text", flock.append(' '), 5);
        flock.append('8');
        Check.is(45, "the text still runs", flock.run(), 1);
        Check.is(19, "turnLength", flock.turnLength(), 8);
        flock.undo();
        Check.is(46, "undo leaves the error position", flock.errorPosition(), 1);
        Check.is(47, "undo leaves the failed command", flock.failedCommand(), 0);
    }
}
