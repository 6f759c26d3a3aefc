import java.util.function.Consumer;

/** The sentences of promises 48 to 52. */
final class LineSentences extends SentenceTests {
    private LineSentences() {
    }

    static void run() {
        describeRow();
        lineAt();
        meanDistance();
        mixedShare();
        isConsistent();
    }

    private static void describeRow() {
        test(48, "Writes a row of the sky to the line, replacing its previous content", () -> {
            BasketFlock flock = Flocks.withClouds(Flocks.full(), 0, 11, 11, 11, 11, 0);
            is("no basket and no cloud", Flocks.line(flock, 7), "............");
            is("the baskets 0 to 5 and a cloud at x 11", Flocks.line(flock, 0), "0.1.2.3.4.5#");
            is("the baskets 6 to 9", Flocks.line(flock, 3), "6.7.8.9.....");
            is("clouds at x 0 and x 11", Flocks.line(flock, 11), "#..........#");
            flock.jump(9, 11, 7);
            is("a basket at x 11", Flocks.line(flock, 7), "...........9");
        });
        test(48, "An example is", () -> {
            BasketFlock flock = Flocks.withClouds(Flocks.at(0, 0, 2, 0, 4, 0, 2, 4), 5, 4);
            is("it", Flocks.line(flock, 4), "..3..#......");
        });
        test(48, "`y`: the y coordinate of the row, 0 to 11", () -> {
            for (int y = 0; y <= 11; y++) {
                is("y " + y, Flocks.line(Flocks.withClouds(Flocks.at(3, y), 5, y), y), "...0.#......");
            }
        });
        test(48, "Returns the length of the line.", () -> {
            is("an empty row", new BasketFlock().describeRow(0), 12);
            is("a row with baskets", Flocks.full().describeRow(0), 12);
            BasketFlock flock = new BasketFlock();
            flock.describeRow(0);
            is("not longer the second time", flock.describeRow(11), 12);
        });
        test(48, "Throws `IllegalArgumentException`", () -> {
            BasketFlock flock = Flocks.at(5, 5);
            failsOutside(ARGUMENT, "y", 0, 11, flock::describeRow);
            fails(INDEX, "the line is still empty", () -> flock.lineAt(0));
            flock.describeRow(5);
            failsOutside(ARGUMENT, "y", 0, 11, flock::describeRow);
            is("the line stays", flock.lineAt(5), '0');
        });
    }

    private static void lineAt() {
        test(49, "Returns a character of the line.", () -> {
            BasketFlock flock = Flocks.withClouds(Flocks.at(3, 4), 7, 4);
            flock.describeRow(4);
            is("of a basket", flock.lineAt(3), '0');
            is("of a cloud", flock.lineAt(7), '#');
            is("of neither", flock.lineAt(4), '.');
            flock.jump(0, 4, 4);
            is("as the row was then", flock.lineAt(3), '0');
            flock.describeRow(4);
            is("as the row is now", flock.lineAt(3), '.');
        });
        test(49, "The line is initially empty.", () -> {
            fails(INDEX, "index 0", () -> new BasketFlock().lineAt(0));
            fails(INDEX, "index 11", () -> new BasketFlock().lineAt(11));
            fails(INDEX, "index -1", () -> new BasketFlock().lineAt(-1));
            fails(INDEX, "baskets, but no line", () -> Flocks.full().lineAt(0));
        });
        test(49, "`index`: the index of the character", () -> {
            BasketFlock flock = Flocks.at(0, 0, 11, 0);
            flock.describeRow(0);
            is("the first one", flock.lineAt(0), '0');
            is("the last one", flock.lineAt(11), '1');
        });
        test(49, "Returns the character.", () -> {
            for (int x = 0; x <= 11; x++) {
                BasketFlock flock = Flocks.at(x, 0);
                flock.describeRow(0);
                is("of the basket at " + x, flock.lineAt(x), '0');
                is("of another cell than " + x, flock.lineAt(11 - x), '.');
            }
        });
        test(49, "Throws `IndexOutOfBoundsException`", () -> {
            BasketFlock flock = Flocks.full();
            flock.describeRow(0);
            failsOutside(INDEX, "index", 0, 11, flock::lineAt);
        });
    }

    private static void meanDistance() {
        test(50, "Returns the mean distance of the other baskets from the leader", () -> {
            BasketFlock flock = Flocks.at(0, 0, 2, 0, 0, 3);
            is("two others", flock.meanDistance(), 2.5);
            flock.advance(4);
            is("from the later leader", flock.meanDistance(), 3.5);
            is("the greatest", Flocks.at(0, 0, 11, 11).meanDistance(), 22.0);
            is("the least", Flocks.at(0, 0, 1, 1).meanDistance(), 2.0);
        });
        test(50, "Returns the mean.", () -> {
            is("two baskets", Flocks.at(0, 0, 3, 4).meanDistance(), 7.0);
            is("a mean that is no decimal fraction", Flocks.at(0, 0, 2, 0, 0, 2, 4, 0).meanDistance(), 8.0 / 3.0);
            is("all ten", Flocks.full().meanDistance(), (2 + 4 + 6 + 8 + 10 + 3 + 5 + 7 + 9) / 9.0);
        });
        test(50, "Throws `ArithmeticException`", () -> {
            fails(ARITHMETIC, "no baskets", () -> new BasketFlock().meanDistance());
            fails(ARITHMETIC, "one basket", () -> Flocks.at(5, 5).meanDistance());
            BasketFlock undone = Flocks.at(0, 0, 5, 5);
            undone.undo();
            fails(ARITHMETIC, "one that is left", undone::meanDistance);
        });
    }

    private static void mixedShare() {
        test(51, "Returns the share of the linked pairs that are mixed", () -> {
            BasketFlock flock = Flocks.at(0, 0, 2, 0, 0, 2, 11, 11);
            flock.setKeep(2);
            is("both linked pairs of four baskets", flock.mixedShare(), 1f);
            flock.setHandle(1, 0);
            is("one of two", flock.mixedShare(), 0.5f);
            flock.setHandle(2, 0);
            is("none of two", flock.mixedShare(), 0f);
        });
        test(51, "Returns the share.", () -> {
            is("a single linked pair", Flocks.at(0, 0, 3, 0).mixedShare(), 1f);
            BasketFlock flock = Flocks.at(0, 0, 2, 0, 0, 2);
            flock.setKeep(4);
            flock.setHandle(1, 0);
            is("two of three, in float", flock.mixedShare(), 2f / 3f);
            flock.addBasket(1, 1, 0);
            is("a half of six", flock.mixedShare(), 0.5f);
        });
        test(51, "Throws `ArithmeticException`", () -> {
            fails(ARITHMETIC, "no baskets", () -> new BasketFlock().mixedShare());
            fails(ARITHMETIC, "one basket", () -> Flocks.at(5, 5).mixedShare());
            fails(ARITHMETIC, "two beyond the keep", () -> Flocks.at(0, 0, 4, 0).mixedShare());
            BasketFlock same = Flocks.at(0, 0, 3, 0);
            same.setHandle(1, 0);
            is("a linked pair that is not mixed", same.mixedShare(), 0f);
        });
    }

    private static boolean consistentAfter(Consumer<BasketFlock> breaking) {
        BasketFlock flock = Flocks.withClouds(Flocks.at(5, 5, 7, 5), 1, 1);
        breaking.accept(flock);
        return flock.isConsistent();
    }

    private static void led(BasketFlock flock, int steps, int turn) {
        Inside.set(flock, "led", steps);
        Inside.set(flock, "turn", turn);
    }

    private static void isConsistent() {
        test(52, "Checks the invariants", () -> {
            is("nothing broken", consistentAfter(flock -> flock.setKeep(2)), true);
            is("two baskets in a cell", consistentAfter(flock -> Inside.set(flock, "xs", 1, 5)), false);
            is("two baskets at distance 1", consistentAfter(flock -> Inside.set(flock, "xs", 1, 6)), false);
            is("two baskets at distance 2", consistentAfter(flock -> Inside.set(flock, "xs", 1, 3)), true);
            is("the last basket in a cloud", consistentAfter(flock -> {
                Inside.set(flock, "xs", 1, 1);
                Inside.set(flock, "ys", 1, 1);
            }), false);
            is("the first basket in a cloud", consistentAfter(flock -> {
                Inside.set(flock, "xs", 0, 1);
                Inside.set(flock, "ys", 0, 1);
            }), false);
            is("a handle that the other way of counting does not know", consistentAfter(flock -> {
                Inside.set(flock, "handles", 0, 7);
                Inside.set(flock, "handles", 1, 7);
            }), false);
            is("a leader that there is not", consistentAfter(flock -> Inside.set(flock, "leading", 5)), false);
            // The formula counts turns that have passed already, and counting does not.
            is("led for too long", consistentAfter(flock -> led(flock, 9, 4)), false);
            is("leaders that differ after 0 steps only", consistentAfter(flock -> led(flock, 25, 25)), false);
            // Beyond the greatest number the formula goes on with the least one.
            is("leaders that differ from 20 steps on",
                    consistentAfter(flock -> led(flock, Integer.MAX_VALUE - 19, Integer.MAX_VALUE)), false);
            is("leaders that differ from 21 steps on",
                    consistentAfter(flock -> led(flock, Integer.MAX_VALUE - 20, Integer.MAX_VALUE)), true);
        });
        test(52, "Returns whether all of them hold.", () -> {
            is("a new object", new BasketFlock().isConsistent(), true);
            is("a single basket", Flocks.at(5, 5).isConsistent(), true);
            is("all places taken", Flocks.withClouds(Flocks.full(), 1, 0, 3, 0, 5, 0, 7, 0, 9, 0, 11, 0, 1, 3, 3, 3)
                    .isConsistent(), true);
            BasketFlock flock = Flocks.full();
            flock.setTarget(11, 11);
            for (int steps = 1; steps <= 20; steps++) {
                flock.advance(steps);
                is("after steps", flock.isConsistent(), true);
            }
        });
    }
}
