import java.util.NoSuchElementException;

/** Promises 34 to 43. */
final class FormationTests {
    private FormationTests() {
    }

    static void run() {
        formations();
        chains();
        mixed();
        shapes();
        sameShapes();
        ranks();
    }

    private static void formations() {
        BasketFlock flock = new BasketFlock();
        counts(flock, 0, 0);
        flock.addBasket(0, 0, 0);
        counts(flock, 1, 1);
        flock.addBasket(4, 0, 0);
        counts(flock, 2, 1);
        flock.setKeep(4);
        counts(flock, 1, 2);
        flock.setKeep(2);
        counts(flock, 2, 1);
        flock.addBasket(2, 0, 0);
        counts(flock, 1, 3);
        counts(Flocks.full(), 1, 10);
        for (int basket : new int[] {-1, 3, 10, Integer.MIN_VALUE, Integer.MAX_VALUE}) {
            Check.fails(37, "formationOf " + basket, IndexOutOfBoundsException.class,
                    () -> flock.formationOf(basket));
        }
    }

    private static void counts(BasketFlock flock, int count, int largest) {
        String cells = " of " + Flocks.cells(flock);
        Check.is(34, "formationCount" + cells, flock.formationCount(), count);
        Check.is(35, "formationCountByMerging" + cells, flock.formationCountByMerging(), count);
        Check.is(36, "largestFormation" + cells, flock.largestFormation(), largest);
    }

    private static void chains() {
        // The chain 0 5 2 is linked by the last basket only; 1 4 and 3 are on their own.
        BasketFlock flock = Flocks.at(0, 0, 0, 11, 6, 0, 11, 11, 3, 11, 3, 0);
        counts(flock, 3, 3);
        int[] due = {0, 1, 0, 3, 1, 0};
        for (int basket = 0; basket < due.length; basket++) {
            Check.is(37, "formationOf " + basket, flock.formationOf(basket), due[basket]);
        }
        Check.is(37, "formationOf before anything else", Flocks.at(0, 0, 5, 5, 7, 5).formationOf(2), 1);
        Check.is(36, "largestFormation before anything else", Flocks.at(0, 0, 5, 5, 7, 5).largestFormation(), 2);
        BasketFlock parted = Flocks.at(0, 0, 4, 0, 2, 0);
        Check.is(35, "merged by the last one", parted.formationCountByMerging(), 1);
        parted.jump(2, 11, 11);
        parted.jump(0, 2, 0);
        Check.is(35, "linked another way", parted.formationCountByMerging(), 2);
        parted.jump(0, 0, 11);
        parted.jump(2, 2, 0);
        Check.is(35, "parted again", parted.formationCountByMerging(), 2);
        parted.jump(2, 11, 11);
        Check.is(35, "each on its own", parted.formationCountByMerging(), 3);
        // Two groups of two that the last basket merges, told by its lowest basket.
        BasketFlock merged = Flocks.at(6, 6, 0, 6, 8, 6, 2, 6, 4, 6);
        merged.setKeep(2);
        counts(merged, 1, 5);
        for (int basket = 0; basket < 5; basket++) {
            Check.is(37, "formationOf merged " + basket, merged.formationOf(basket), 0);
        }
    }

    private static void mixed() {
        BasketFlock flock = new BasketFlock();
        mixedAre(flock, 0);
        flock.addBasket(0, 0, 0);
        flock.addBasket(3, 0, 1);
        mixedAre(flock, 1);
        flock.addBasket(6, 0, 1);
        mixedAre(flock, 1);
        flock.addBasket(3, 3, 2);
        mixedAre(flock, 2);
        flock.setKeep(6);
        mixedAre(flock, 5);
        flock.setHandle(0, 1);
        mixedAre(flock, 3);
        flock.setHandle(3, 1);
        mixedAre(flock, 0);
    }

    private static void mixedAre(BasketFlock flock, int due) {
        String cells = " of " + Flocks.cells(flock);
        Check.is(38, "mixedPairs" + cells, flock.mixedPairs(), due);
        Check.is(39, "mixedPairsByHandles" + cells, flock.mixedPairsByHandles(), due);
    }

    private static void shapes() {
        BasketFlock flock = Flocks.at(0, 0, 2, 0);
        Check.is(40, "shapeCount at first", flock.shapeCount(), 0);
        Check.is(41, "differentShapes at first", flock.differentShapes(), 0);
        Check.fails(42, "stepsSinceShape at first", NoSuchElementException.class, flock::stepsSinceShape);
        flock.advance(1);
        Check.is(40, "shapeCount after a step", flock.shapeCount(), 1);
        Check.is(42, "stepsSinceShape after a step", flock.stepsSinceShape(), 0);
        flock.jump(1, 1, 1);
        Check.fails(42, "stepsSinceShape of a new shape", NoSuchElementException.class, flock::stepsSinceShape);
        flock.advance(2);
        Check.is(41, "differentShapes", flock.differentShapes(), 2);
        flock.jump(1, 2, 0);
        Check.is(42, "stepsSinceShape of an older shape", flock.stepsSinceShape(), 2);
        flock.addBasket(11, 11, 0);
        Check.fails(42, "stepsSinceShape with one basket more", NoSuchElementException.class, flock::stepsSinceShape);
        flock.undo();
        flock.jump(1, 1, 1);
        flock.advance(13);
        flock.jump(1, 2, 0);
        Check.is(40, "shapeCount is 16", flock.shapeCount(), 16);
        Check.is(42, "stepsSinceShape of the oldest", flock.stepsSinceShape(), 15);
        Check.is(41, "differentShapes of 16", flock.differentShapes(), 2);
        flock.jump(1, 1, 1);
        flock.advance(1);
        Check.is(40, "shapeCount stays 16", flock.shapeCount(), 16);
        Check.is(41, "the oldest is forgotten", flock.differentShapes(), 1);
        flock.jump(1, 2, 0);
        Check.fails(42, "stepsSinceShape of a forgotten one", NoSuchElementException.class, flock::stepsSinceShape);
        flock.undo();
        flock.undo();
        flock.undo();
        Check.is(42, "stepsSinceShape after undo", flock.stepsSinceShape(), 15);
        Check.fails(42, "stepsSinceShape without baskets", NoSuchElementException.class,
                () -> new BasketFlock().stepsSinceShape());
    }

    private static void sameShapes() {
        BasketFlock single = Flocks.at(3, 4);
        single.advance(2);
        Check.is(40, "the shape of a single basket is remembered", single.shapeCount(), 2);
        single.jump(0, 11, 0);
        Check.is(42, "a single basket has one shape everywhere", single.stepsSinceShape(), 0);
        BasketFlock moved = Flocks.at(0, 0, 1, 2);
        moved.advance(1);
        moved.jump(1, 11, 11);
        moved.jump(0, 10, 9);
        Check.is(42, "the shape does not depend on the place", moved.stepsSinceShape(), 0);
        moved.jump(1, 9, 7);
        Check.is(42, "the shape does not depend on which is where", moved.stepsSinceShape(), 0);
        moved.jump(1, 11, 7);
        Check.fails(42, "a mirrored shape is another", NoSuchElementException.class, moved::stepsSinceShape);
        moved.jump(1, 8, 8);
        Check.fails(42, "a turned shape is another", NoSuchElementException.class, moved::stepsSinceShape);

        // Shapes may reach from the first cell of the sky to the last one.
        firstCellCounts(2, 0);
        firstCellCounts(2, 4);
        firstCellCounts(4, 8);
        lastCellCounts(11, 10, 11, 11);
        lastCellCounts(10, 11, 11, 11);
        lastCellCounts(11, 11, 11, 10);
        lastCellCounts(11, 3, 0, 4);
        lastCellCounts(11, 7, 0, 8);
    }

    private static void firstCellCounts(int y, int addedY) {
        BasketFlock flock = Flocks.at(2, 0, 0, y);
        flock.setKeep(6);
        flock.advance(1);
        Check.is(42, "the shape of both", flock.stepsSinceShape(), 0);
        flock.addBasket(0, addedY, 0);
        Check.fails(42, "the shape with 0," + addedY, NoSuchElementException.class, flock::stepsSinceShape);
    }

    private static void lastCellCounts(int x, int y, int otherX, int otherY) {
        // The cloud beside each corner holds the follower where it is.
        BasketFlock flock = Flocks.withClouds(Flocks.at(0, 0, x, y), x - 1, y, x, y - 1);
        flock.advance(1);
        Check.is(42, "the shape to " + x + "," + y, flock.stepsSinceShape(), 0);
        flock.removeCloud(x - 1, y);
        flock.removeCloud(x, y - 1);
        flock.jump(1, otherX, otherY);
        Check.fails(42, "the shape to " + otherX + "," + otherY, NoSuchElementException.class, flock::stepsSinceShape);
    }

    private static void ranks() {
        BasketFlock flock = Flocks.at(0, 0, 5, 0, 0, 2, 1, 1);
        int[] due = {0, 2, 3, 1};
        for (int rank = 0; rank < due.length; rank++) {
            Check.is(43, "basketAtRank " + rank, flock.basketAtRank(rank), due[rank]);
        }
        flock.setKeep(6);
        flock.advance(4);
        Check.is(43, "the leader is first", flock.basketAtRank(0), 1);
        Check.is(43, "the next one", flock.basketAtRank(1), 0);
        Check.is(43, "the one after it", flock.basketAtRank(2), 3);
        Check.is(43, "the last one", flock.basketAtRank(3), 2);
        for (int rank : new int[] {-1, 4, 10, Integer.MIN_VALUE, Integer.MAX_VALUE}) {
            Check.fails(43, "basketAtRank " + rank, NoSuchElementException.class, () -> flock.basketAtRank(rank));
        }
        Check.fails(43, "basketAtRank without baskets", NoSuchElementException.class,
                () -> new BasketFlock().basketAtRank(0));
    }
}
