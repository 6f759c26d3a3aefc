/** Promises 48 to 52. */
final class LineTests {
    private LineTests() {
    }

    static void run() {
        describeRow();
        lineAt();
        meanDistance();
        mixedShare();
        isConsistent();
    }

    private static void describeRow() {
        BasketFlock flock = Flocks.withClouds(Flocks.full(), 5, 2, 0, 11, 11, 11, 8, 3);
        flock.jump(3, 2, 5);
        Check.is(48, "describeRow's length", flock.describeRow(0), 12);
        Check.is(48, "row 0", Flocks.line(flock, 0), "0.1.2...4.5.");
        Check.is(48, "row 3", Flocks.line(flock, 3), "6.7.8.9.#...");
        Check.is(48, "row 5", Flocks.line(flock, 5), "..3.........");
        Check.is(48, "row 2", Flocks.line(flock, 2), ".....#......");
        Check.is(48, "row 11", Flocks.line(flock, 11), "#..........#");
        Check.is(48, "row 7", Flocks.line(flock, 7), "............");
        flock.jump(3, 2, 11);
        flock.addCloud(5, 11);
        Check.is(48, "a basket and a cloud", Flocks.line(flock, 11), "#.3..#.....#");
        for (int y : new int[] {-1, 12, Integer.MIN_VALUE, Integer.MAX_VALUE}) {
            Check.fails(48, "describeRow " + y, IllegalArgumentException.class, () -> flock.describeRow(y));
        }
        Check.is(48, "the line stays", flock.lineAt(2), '3');
    }

    private static void lineAt() {
        BasketFlock flock = Flocks.at(11, 4);
        Check.fails(49, "lineAt of an empty line", IndexOutOfBoundsException.class, () -> flock.lineAt(0));
        flock.save();
        flock.describeRow(4);
        for (int index : new int[] {-1, 12, Integer.MIN_VALUE, Integer.MAX_VALUE}) {
            Check.fails(49, "lineAt " + index, IndexOutOfBoundsException.class, () -> flock.lineAt(index));
        }
        Check.is(49, "lineAt 0", flock.lineAt(0), '.');
        Check.is(49, "lineAt 11", flock.lineAt(11), '0');
        flock.jump(0, 0, 4);
        Check.is(49, "the line is not written again", flock.lineAt(11), '0');
        flock.undo();
        flock.undo();
        Check.is(49, "the line is not undone", flock.lineAt(11), '0');
        flock.restore();
        Check.is(49, "the line is not restored", flock.lineAt(11), '0');
    }

    private static void meanDistance() {
        BasketFlock flock = new BasketFlock();
        Check.fails(50, "meanDistance of none", ArithmeticException.class, flock::meanDistance);
        flock.addBasket(0, 0, 0);
        Check.fails(50, "meanDistance of one", ArithmeticException.class, flock::meanDistance);
        flock.addBasket(3, 0, 0);
        Check.is(50, "meanDistance of two", flock.meanDistance(), 3.0);
        flock.addBasket(0, 2, 0);
        Check.is(50, "meanDistance of three", flock.meanDistance(), 2.5);
        flock.addBasket(1, 1, 0);
        Check.is(50, "meanDistance of four", flock.meanDistance(), 7.0 / 3.0);
        flock.advance(4);
        Check.is(50, "meanDistance from a later leader", flock.meanDistance(), 11.0 / 3.0);
    }

    private static void mixedShare() {
        BasketFlock flock = new BasketFlock();
        Check.fails(51, "mixedShare of none", ArithmeticException.class, flock::mixedShare);
        flock.addBasket(0, 0, 0);
        flock.addBasket(4, 0, 1);
        Check.fails(51, "mixedShare without links", ArithmeticException.class, flock::mixedShare);
        flock.jump(1, 3, 0);
        Check.is(51, "mixedShare of a single link", flock.mixedShare(), 1f);
        flock.jump(1, 4, 0);
        flock.addBasket(2, 0, 0);
        Check.is(51, "mixedShare of a half", flock.mixedShare(), 0.5f);
        flock.setKeep(4);
        Check.is(51, "mixedShare of two thirds", flock.mixedShare(), 2f / 3f);
        flock.setHandle(1, 0);
        Check.is(51, "mixedShare of nothing", flock.mixedShare(), 0f);
        flock.setHandle(1, 2);
        flock.setHandle(2, 1);
        Check.is(51, "mixedShare of all", flock.mixedShare(), 1f);
    }

    private static void isConsistent() {
        Check.is(52, "isConsistent without baskets", new BasketFlock().isConsistent(), true);
        BasketFlock flock = Flocks.withClouds(Flocks.full(), 5, 5, 1, 0, 0, 1);
        Check.is(52, "isConsistent when full", flock.isConsistent(), true);
        flock.setTarget(11, 11);
        for (int i = 0; i < 10; i++) {
            flock.advance(7);
            Check.is(52, "isConsistent after steps", flock.isConsistent(), true);
        }
        flock.undo();
        Check.is(52, "isConsistent after undo", flock.isConsistent(), true);
    }
}
