/** The sentences of promises 34 to 43. */
final class FormationSentences extends SentenceTests {
    /** Ten cells, each at most 6 away from each other one. */
    private static final int[] ALL_LINKED = {5, 2, 5, 8, 2, 5, 8, 5, 5, 4, 5, 6, 4, 5, 6, 5, 4, 3, 6, 3};
    /** Ten cells, the nearest ones 3 apart. */
    private static final int[] THREE_APART = {0, 0, 3, 0, 6, 0, 9, 0, 0, 3, 3, 3, 6, 3, 9, 3, 0, 6, 3, 6};

    private FormationSentences() {
    }

    static void run() {
        formationCount();
        formationCountByMerging();
        largestFormation();
        formationOf();
        mixedPairs();
        mixedPairsByHandles();
        shapeCount();
        differentShapes();
        stepsSinceShape();
        stepsSinceShapeFails();
        basketAtRank();
    }

    private static BasketFlock keeping(int keep, int... cells) {
        BasketFlock flock = Flocks.at(cells);
        flock.setKeep(keep);
        return flock;
    }

    private static void formationCount() {
        test(34, "Returns the number of formations, found by going from basket to linked basket.", () -> {
            is("a row that the last basket closes", keeping(2, 0, 0, 4, 0, 2, 0).formationCount(), 1);
            is("two rows", keeping(2, 0, 0, 0, 5, 2, 0, 2, 5).formationCount(), 2);
            is("a ring", keeping(3, 0, 0, 3, 0, 0, 3, 3, 3).formationCount(), 1);
            is("a row from the last one to the first", keeping(2, 8, 0, 6, 0, 4, 0, 2, 0, 0, 0).formationCount(), 1);
        });
        test(34, "Returns the number of formations.", () -> {
            is("without baskets", new BasketFlock().formationCount(), 0);
            is("a single basket", Flocks.at(5, 5).formationCount(), 1);
            is("ten on their own", keeping(2, THREE_APART).formationCount(), 10);
            is("all ten", keeping(3, THREE_APART).formationCount(), 1);
            BasketFlock flock = keeping(3, THREE_APART);
            flock.setKeep(2);
            is("after the keep was set", flock.formationCount(), 10);
            flock.undo();
            is("after undo", flock.formationCount(), 1);
        });
    }

    private static void formationCountByMerging() {
        test(35, "Returns the same number as formationCount(), found by merging the groups of linked baskets.", () -> {
            is("a row that the last basket closes", keeping(2, 0, 0, 4, 0, 2, 0).formationCountByMerging(), 1);
            is("two rows", keeping(2, 0, 0, 0, 5, 2, 0, 2, 5).formationCountByMerging(), 2);
            is("a ring", keeping(3, 0, 0, 3, 0, 0, 3, 3, 3).formationCountByMerging(), 1);
            is("two groups that the last basket merges",
                    keeping(2, 6, 6, 0, 6, 8, 6, 2, 6, 4, 6).formationCountByMerging(), 1);
            BasketFlock again = keeping(2, 0, 0, 4, 0, 2, 0);
            is("merged by the last one", again.formationCountByMerging(), 1);
            again.jump(2, 11, 11);
            again.jump(0, 2, 0);
            is("counted anew without the last one", again.formationCountByMerging(), 2);
            for (int keep = 2; keep <= 6; keep++) {
                for (int basket = 0; basket < 10; basket++) {
                    BasketFlock apart = keeping(keep, THREE_APART);
                    apart.jump(basket, 11, 11);
                    is("keep " + keep + ", basket " + basket + " far from a group",
                            apart.formationCountByMerging(), apart.formationCount());
                    BasketFlock near = keeping(keep, ALL_LINKED);
                    near.jump(basket, 11, 11);
                    is("keep " + keep + ", basket " + basket + " far from a crowd",
                            near.formationCountByMerging(), near.formationCount());
                }
            }
        });
        test(35, "Returns the number of formations.", () -> {
            is("without baskets", new BasketFlock().formationCountByMerging(), 0);
            is("a single basket", Flocks.at(5, 5).formationCountByMerging(), 1);
            is("ten on their own", keeping(2, THREE_APART).formationCountByMerging(), 10);
            is("all ten", keeping(3, THREE_APART).formationCountByMerging(), 1);
        });
    }

    private static void largestFormation() {
        test(36, "Returns the number of baskets of the largest formation.", () -> {
            is("the first one is the largest", keeping(2, 0, 0, 2, 0, 4, 0, 0, 5, 2, 5).largestFormation(), 3);
            is("the last one is the largest", keeping(2, 0, 5, 2, 5, 0, 0, 2, 0, 4, 0).largestFormation(), 3);
            is("two of the same size", keeping(2, 0, 0, 2, 0, 0, 5, 2, 5).largestFormation(), 2);
        });
        test(36, "Returns the number of baskets, 0 without baskets.", () -> {
            is("without baskets", new BasketFlock().largestFormation(), 0);
            is("a single basket", Flocks.at(5, 5).largestFormation(), 1);
            is("ten on their own", keeping(2, THREE_APART).largestFormation(), 1);
            is("all ten", keeping(3, THREE_APART).largestFormation(), 10);
            BasketFlock undone = Flocks.at(5, 5);
            undone.undo();
            is("the only basket undone", undone.largestFormation(), 0);
        });
    }

    private static void formationOf() {
        test(37, "Returns the lowest number of a basket in the formation of a basket.", () -> {
            BasketFlock flock = keeping(2, 0, 0, 0, 5, 4, 0, 2, 5, 2, 0);
            int[] due = {0, 1, 0, 1, 0};
            for (int basket = 0; basket < due.length; basket++) {
                is("of basket " + basket, flock.formationOf(basket), due[basket]);
            }
        });
        test(37, "`basket`: the basket", () -> {
            is("the first one", keeping(2, THREE_APART).formationOf(0), 0);
            is("the last one", keeping(2, THREE_APART).formationOf(9), 9);
        });
        test(37, "Returns the basket with the lowest number.", () -> {
            is("a single basket", Flocks.at(5, 5).formationOf(0), 0);
            is("the last of all ten", keeping(3, THREE_APART).formationOf(9), 0);
            is("its own is the lowest", Flocks.at(0, 0, 5, 5, 8, 5).formationOf(1), 1);
            is("not its neighbour's", keeping(2, 4, 0, 0, 0, 2, 0).formationOf(1), 0);
        });
        test(37, "Throws `IndexOutOfBoundsException`", () -> {
            failsOutside(INDEX, "one basket, basket", 0, 0, basket -> Flocks.at(0, 0).formationOf(basket));
            failsOutside(INDEX, "ten baskets, basket", 0, 9, basket -> Flocks.full().formationOf(basket));
            fails(INDEX, "no baskets, basket 0", () -> new BasketFlock().formationOf(0));
        });
    }

    private static void mixedPairs() {
        test(38, "Returns the number of linked pairs of baskets with different handles", () -> {
            is("different ones at the keep", keeping(4, 0, 0, 4, 0).mixedPairs(), 1);
            is("different ones beyond the keep", keeping(3, 0, 0, 4, 0).mixedPairs(), 0);
            BasketFlock same = keeping(4, 0, 0, 4, 0);
            same.setHandle(1, 0);
            is("the same handle", same.mixedPairs(), 0);
            is("one formation, but not all are linked", keeping(2, 0, 0, 2, 0, 4, 0).mixedPairs(), 2);
        });
        test(38, "Returns the number of pairs.", () -> {
            is("without baskets", new BasketFlock().mixedPairs(), 0);
            is("a single basket", Flocks.at(5, 5).mixedPairs(), 0);
            is("45 pairs without 12 of the same handle", keeping(6, ALL_LINKED).mixedPairs(), 33);
        });
    }

    private static void mixedPairsByHandles() {
        test(39, "Returns the same number as mixedPairs(): all linked pairs without those of each handle.", () -> {
            is("different ones at the keep", keeping(4, 0, 0, 4, 0).mixedPairsByHandles(), 1);
            is("different ones beyond the keep", keeping(3, 0, 0, 4, 0).mixedPairsByHandles(), 0);
            for (int handle = 0; handle <= 2; handle++) {
                BasketFlock same = keeping(4, 0, 0, 4, 0);
                same.setHandle(0, handle);
                same.setHandle(1, handle);
                is("both with handle " + handle, same.mixedPairsByHandles(), 0);
            }
            is("one formation, but not all are linked", keeping(2, 0, 0, 2, 0, 4, 0).mixedPairsByHandles(), 2);
        });
        test(39, "Returns the number of pairs.", () -> {
            is("without baskets", new BasketFlock().mixedPairsByHandles(), 0);
            is("a single basket", Flocks.at(5, 5).mixedPairsByHandles(), 0);
            is("45 pairs without 12 of the same handle", keeping(6, ALL_LINKED).mixedPairsByHandles(), 33);
        });
    }

    /** So many steps, after each of which the two baskets have another shape. */
    private static BasketFlock differing(int steps) {
        BasketFlock flock = keeping(6, 0, 0, 2, 0);
        for (int step = 0; step < steps; step++) {
            differ(flock, step);
            flock.advance(1);
        }
        return flock;
    }

    /** The cells at distance 2 from basket 0, then those at distance 3, and so on up to the keep. */
    private static void differ(BasketFlock flock, int step) {
        int distance = 2;
        int x = step;
        while (x > distance) {
            x -= distance + 1;
            distance++;
        }
        flock.jump(1, x, distance - x);
    }

    private static void shapeCount() {
        test(40, "Returns the number of remembered shapes.", () -> {
            BasketFlock flock = Flocks.at(5, 5);
            is("before a step", flock.shapeCount(), 0);
            flock.advance(1);
            is("after a step", flock.shapeCount(), 1);
            flock.advance(1);
            is("the same shape again", flock.shapeCount(), 2);
            flock.undo();
            is("after undo", flock.shapeCount(), 1);
        });
        test(40, "Returns the number of shapes.", () -> {
            is("a new object", new BasketFlock().shapeCount(), 0);
            BasketFlock none = new BasketFlock();
            none.advance(20);
            is("steps without baskets", none.shapeCount(), 0);
            none.addBasket(5, 5, 0);
            is("as the first basket is added", none.shapeCount(), 0);
            BasketFlock flock = Flocks.at(5, 5);
            keepsEach("shapes", 1, 16, count -> {
                flock.advance(1);
                return flock.shapeCount();
            });
            flock.advance(1);
            is("one more is met than remembered", flock.shapeCount(), 16);
            flock.advance(20);
            is("many more are met than remembered", flock.shapeCount(), 16);
            BasketFlock atOnce = Flocks.at(5, 5);
            atOnce.advance(20);
            is("twenty at once", atOnce.shapeCount(), 16);
        });
    }

    private static void differentShapes() {
        test(41, "Returns how many of the remembered shapes are different.", () -> {
            BasketFlock flock = Flocks.at(0, 0, 2, 0);
            flock.advance(2);
            is("the same twice", flock.differentShapes(), 1);
            flock.jump(1, 1, 1);
            is("a shape without a step", flock.differentShapes(), 1);
            flock.advance(1);
            is("another one", flock.differentShapes(), 2);
            flock.jump(1, 2, 0);
            flock.advance(1);
            is("the first one again", flock.differentShapes(), 2);
        });
        test(41, "Returns the number of different shapes.", () -> {
            is("a new object", new BasketFlock().differentShapes(), 0);
            is("baskets, but no step", Flocks.at(5, 5).differentShapes(), 0);
            keepsEach("shapes", 0, 16, steps -> differing(steps).differentShapes());
            is("one more is met than remembered", differing(17).differentShapes(), 16);
            BasketFlock flock = differing(16);
            flock.advance(1);
            is("the last one again, the first one forgotten", flock.differentShapes(), 15);
            flock.advance(15);
            is("one that is left", flock.differentShapes(), 1);
            flock.undo();
            is("after undo", flock.differentShapes(), 15);
        });
    }

    private static void stepsSinceShape() {
        test(42, "Returns how many steps ago the flock had its present shape the last time", () -> {
            BasketFlock flock = differing(16);
            for (int step = 0; step < 16; step++) {
                differ(flock, step);
                is("of the shape after step " + step, flock.stepsSinceShape(), 15 - step);
            }
            BasketFlock twice = Flocks.at(0, 0, 2, 0);
            twice.advance(2);
            twice.jump(1, 1, 1);
            twice.advance(3);
            twice.jump(1, 2, 0);
            is("the later one of two", twice.stepsSinceShape(), 3);
        });
        test(42, "Returns the number of steps, 0 if the shape after the latest step is the present one.", () -> {
            BasketFlock flock = Flocks.at(0, 0, 2, 0);
            flock.advance(1);
            is("after a step", flock.stepsSinceShape(), 0);
            flock.advance(20);
            is("after many steps", flock.stepsSinceShape(), 0);
            flock.jump(0, 9, 9);
            flock.jump(1, 11, 9);
            is("elsewhere", flock.stepsSinceShape(), 0);
        });
    }

    private static void stepsSinceShapeFails() {
        test(42, "Throws `NoSuchElementException`", () -> {
            fails(NONE, "a new object", () -> new BasketFlock().stepsSinceShape());
            BasketFlock none = new BasketFlock();
            none.advance(1);
            fails(NONE, "steps without baskets", none::stepsSinceShape);
            fails(NONE, "baskets, but no step", () -> Flocks.at(5, 5).stepsSinceShape());
            BasketFlock flock = Flocks.at(0, 0, 2, 0);
            flock.advance(1);
            flock.jump(1, 3, 0);
            fails(NONE, "a shape that never was", flock::stepsSinceShape);
            flock.undo();
            flock.addBasket(5, 5, 0);
            fails(NONE, "a basket more", flock::stepsSinceShape);
            BasketFlock forgotten = differing(17);
            differ(forgotten, 1);
            is("the oldest that is remembered", forgotten.stepsSinceShape(), 15);
            differ(forgotten, 0);
            fails(NONE, "a forgotten one", forgotten::stepsSinceShape);
        });
    }

    private static void basketAtRank() {
        test(43, "Returns the basket at a rank", () -> {
            BasketFlock flock = Flocks.at(5, 5, 9, 5, 5, 7, 7, 5, 5, 3, 3, 5, 5, 1);
            int[] due = {0, 2, 3, 4, 5, 1, 6};
            for (int rank = 0; rank < due.length; rank++) {
                is("four and two with the same distance, rank " + rank, flock.basketAtRank(rank), due[rank]);
            }
            BasketFlock later = Flocks.at(2, 0, 0, 0, 4, 0, 0, 2);
            later.setKeep(6);
            later.advance(4);
            is("the later leader", later.basketAtRank(0), 1);
            is("the nearest to it, the lower one", later.basketAtRank(1), 0);
            is("the nearest to it, the higher one", later.basketAtRank(2), 3);
            is("the farthest one", later.basketAtRank(3), 2);
        });
        test(43, "`rank`: the rank, from 0", () -> {
            is("the leader", Flocks.full().basketAtRank(0), 0);
            is("the last rank", Flocks.full().basketAtRank(9), 5);
        });
        test(43, "Returns the basket.", () -> {
            is("the only one", Flocks.at(5, 5).basketAtRank(0), 0);
            StringBuilder ranks = new StringBuilder();
            for (int rank = 0; rank < 10; rank++) {
                ranks.append(Flocks.full().basketAtRank(rank));
            }
            is("each of ten", ranks.toString(), "0162738495");
        });
        test(43, "Throws `NoSuchElementException`", () -> {
            fails(NONE, "no baskets, rank 0", () -> new BasketFlock().basketAtRank(0));
            failsOutside(NONE, "one basket, rank", 0, 0, rank -> Flocks.at(0, 0).basketAtRank(rank));
            failsOutside(NONE, "ten baskets, rank", 0, 9, rank -> Flocks.full().basketAtRank(rank));
        });
    }
}
