/** The sentences of promises 1 to 13. */
final class BasketSentences extends SentenceTests {
    private static final int[][] FOUR_BESIDE = {{0, 1}, {1, 0}, {0, -1}, {-1, 0}};
    private static final int[][] EIGHT_AT_TWO = {{0, 2}, {1, 1}, {2, 0}, {1, -1}, {0, -2}, {-1, -1}, {-2, 0}, {-1, 1}};

    private BasketSentences() {
    }

    static void run() {
        newObject();
        addBasket();
        addBasketFails();
        jump();
        jumpFails();
        setHandle();
        basketCount();
        coordinates();
        handleOf();
        basketAt();
        distance();
        nearestTo();
        refusalReason();
        refusalDetail();
    }

    /** Ten baskets, the last one added here; nine have another handle. */
    private static BasketFlock tenWithLast(int x, int y, int handle) {
        BasketFlock flock = Flocks.full();
        flock.undo();
        flock.addBasket(x, y, handle);
        return flock;
    }

    private static void newObject() {
        test(1, "Creates an empty sky without baskets, clouds and a target.", () -> {
            BasketFlock flock = new BasketFlock();
            is("no baskets", flock.basketCount(), 0);
            is("no clouds", flock.cloudCount(), 0);
            for (int y = 0; y < 12; y++) {
                is("an empty row " + y, Flocks.line(flock, y), "............");
                for (int x = 0; x < 12; x++) {
                    int cellX = x;
                    int cellY = y;
                    is("no cloud in " + x + "," + y, flock.isCloud(x, y), false);
                    fails(NONE, "no basket in " + x + "," + y, () -> flock.basketAt(cellX, cellY));
                }
            }
            fails(NONE, "no target x", flock::targetX);
            fails(NONE, "no target y", flock::targetY);
            fails(NONE, "no way to a target", flock::stepsToTarget);
            fails(STATE, "no change to undo", flock::undo);
            fails(STATE, "no snapshot", flock::restore);
            is("no character is typed", flock.append('a'), 1);
            String before = Flocks.everything(new BasketFlock());
            BasketFlock used = Flocks.withClouds(Flocks.at(1, 1), 5, 5);
            used.setTarget(7, 7);
            used.advance(3);
            is("what another object does is not seen", Flocks.everything(new BasketFlock()), before);
        });
    }

    private static void addBasket() {
        test(2, "Adds a basket.", () -> {
            BasketFlock flock = new BasketFlock();
            flock.addBasket(3, 7, 2);
            is("a basket more", flock.basketCount(), 1);
            is("in its cell", flock.basketAt(3, 7), 0);
            is("with its handle", flock.handleOf(0), 2);
            is("without a move", flock.movesOf(0), 0);
            for (int[] corner : new int[][] {{0, 0}, {11, 0}, {0, 11}, {11, 11}}) {
                is("in the corner " + corner[0] + "," + corner[1], Flocks.cells(Flocks.at(corner)),
                        corner[0] + "," + corner[1]);
            }
            BasketFlock again = Flocks.at(0, 0, 9, 9);
            again.advance(1);
            is("a move", again.movesOf(1), 1);
            again.undo();
            again.undo();
            again.addBasket(5, 5, 0);
            is("no move of one that was undone", again.movesOf(1), 0);
        });
        test(2, "`x`: the x coordinate, 0 to 11", () -> keepsEach("x", 0, 11, x -> Flocks.at(x, 5).xOf(0)));
        test(2, "`y`: the y coordinate, 0 to 11", () -> keepsEach("y", 0, 11, y -> Flocks.at(5, y).yOf(0)));
        test(2, "`handle`: the handle, 0 to 2", () -> keepsEach("handle", 0, 2, handle -> {
            BasketFlock flock = new BasketFlock();
            flock.addBasket(5, 5, handle);
            return flock.handleOf(0);
        }));
        test(2, "Returns the number of the basket.", () -> {
            BasketFlock flock = new BasketFlock();
            keepsEach("the numbers ascend to the last one,", 0, 9, basket -> flock.addBasket(basket, basket, 0));
            flock.undo();
            is("an undone number is given again", flock.addBasket(0, 11, 0), 9);
            BasketFlock failed = Flocks.at(5, 5);
            fails(UNSUPPORTED, "a refused one", () -> failed.addBasket(5, 6, 0));
            is("a refused one takes no number", failed.addBasket(5, 7, 0), 1);
        });
    }

    private static void addBasketFails() {
        test(2, "Throws `IllegalArgumentException`", () -> {
            BasketFlock flock = new BasketFlock();
            failsOutside(ARGUMENT, "x", 0, 11, x -> flock.addBasket(x, 5, 0));
            failsOutside(ARGUMENT, "y", 0, 11, y -> flock.addBasket(5, y, 0));
            failsOutside(ARGUMENT, "handle", 0, 2, handle -> flock.addBasket(5, 5, handle));
            failsOutside(ARGUMENT, "all of them", 0, 11, number -> flock.addBasket(number, number, number));
            is("none was added", flock.basketCount(), 0);
        });
        test(2, "Throws `IllegalStateException`", () -> {
            BasketFlock flock = new BasketFlock();
            for (int basket = 0; basket < 9; basket++) {
                flock.addBasket(basket, basket, 0);
            }
            is("the tenth is added", flock.addBasket(9, 9, 0), 9);
            fails(STATE, "the eleventh", () -> flock.addBasket(11, 0, 0));
            is("ten are left", flock.basketCount(), 10);
            flock.undo();
            is("the tenth again after undo", flock.addBasket(11, 0, 0), 9);
            fails(STATE, "the eleventh again", () -> flock.addBasket(0, 11, 0));
        });
        test(2, "Throws `UnsupportedOperationException`", () -> {
            BasketFlock flock = Flocks.withClouds(Flocks.at(5, 5), 8, 8);
            fails(UNSUPPORTED, "the cell of a cloud", () -> flock.addBasket(8, 8, 0));
            is("its reason is kept", flock.refusalReason(), 1);
            fails(UNSUPPORTED, "the cell of a basket", () -> flock.addBasket(5, 5, 0));
            is("its reason is kept", flock.refusalReason(), 2);
            for (int[] way : FOUR_BESIDE) {
                fails(UNSUPPORTED, "beside a basket " + way[0] + "," + way[1],
                        () -> flock.addBasket(5 + way[0], 5 + way[1], 0));
            }
            is("none was added", flock.basketCount(), 1);
            for (int[] way : EIGHT_AT_TWO) {
                is("at distance 2 " + way[0] + "," + way[1],
                        Flocks.at(5, 5, 5 + way[0], 5 + way[1]).basketCount(), 2);
            }
            is("beside a cloud", flock.addBasket(8, 9, 0), 1);
        });
    }

    private static void jump() {
        test(3, "Puts a basket into another cell, however far away.", () -> {
            BasketFlock flock = Flocks.withClouds(Flocks.at(0, 0, 5, 5), 1, 0, 0, 1);
            flock.jump(0, 11, 11);
            is("from corner to corner, out of clouds", Flocks.cells(flock), "11,11 5,5");
            fails(NONE, "the cell before is empty", () -> flock.basketAt(0, 0));
            flock.jump(0, 11, 10);
            is("by one cell only", Flocks.cells(flock), "11,10 5,5");
            flock.jump(1, 11, 8);
            is("to distance 2 of another one", Flocks.cells(flock), "11,10 11,8");
        });
        test(3, "`basket`: the basket", () -> {
            BasketFlock flock = Flocks.full();
            flock.jump(0, 11, 11);
            flock.jump(9, 11, 6);
            is("the first one", flock.basketAt(11, 11), 0);
            is("the last one", flock.basketAt(11, 6), 9);
        });
        test(3, "`x`: the x coordinate, 0 to 11", () -> keepsEach("x", 0, 11, x -> {
            BasketFlock flock = Flocks.at(5, 5);
            flock.jump(0, x, 7);
            return flock.xOf(0);
        }));
        test(3, "`y`: the y coordinate, 0 to 11", () -> keepsEach("y", 0, 11, y -> {
            BasketFlock flock = Flocks.at(5, 5);
            flock.jump(0, 7, y);
            return flock.yOf(0);
        }));
        test(3, "Returns the distance from the cell in which it was.", () -> {
            BasketFlock flock = Flocks.at(0, 0);
            is("the longest way", flock.jump(0, 11, 11), 22);
            is("its own cell", flock.jump(0, 11, 11), 0);
            is("one cell", flock.jump(0, 11, 10), 1);
            is("to less x and less y", flock.jump(0, 9, 7), 5);
            is("to greater x and less y", flock.jump(0, 11, 4), 5);
        });
    }

    private static void jumpFails() {
        test(3, "Throws `IndexOutOfBoundsException`", () -> {
            failsOutside(INDEX, "one basket, basket", 0, 0, basket -> Flocks.at(0, 0).jump(basket, 5, 5));
            failsOutside(INDEX, "ten baskets, basket", 0, 9, basket -> Flocks.full().jump(basket, 11, 11));
            fails(INDEX, "no baskets, basket 0", () -> new BasketFlock().jump(0, 5, 5));
            BasketFlock undone = Flocks.at(0, 0, 5, 5);
            undone.undo();
            fails(INDEX, "an undone basket", () -> undone.jump(1, 7, 7));
        });
        test(3, "Throws `IllegalArgumentException`", () -> {
            BasketFlock flock = Flocks.at(5, 5);
            failsOutside(ARGUMENT, "x", 0, 11, x -> flock.jump(0, x, 7));
            failsOutside(ARGUMENT, "y", 0, 11, y -> flock.jump(0, 7, y));
            is("nobody jumped", Flocks.cells(flock), "5,5");
        });
        test(3, "Throws `UnsupportedOperationException`", () -> {
            BasketFlock flock = Flocks.withClouds(Flocks.at(0, 0, 5, 5, 9, 9), 8, 3, 0, 1);
            fails(UNSUPPORTED, "the cell of a cloud", () -> flock.jump(1, 8, 3));
            is("its reason is kept", flock.refusalReason(), 1);
            fails(UNSUPPORTED, "the cell of another basket", () -> flock.jump(0, 5, 5));
            is("its reason is kept", flock.refusalReason(), 2);
            is("its detail is kept", flock.refusalDetail(), 1);
            fails(UNSUPPORTED, "a cloud beside its own cell", () -> flock.jump(0, 0, 1));
            for (int[] way : FOUR_BESIDE) {
                fails(UNSUPPORTED, "beside one with a lower number " + way[0] + "," + way[1],
                        () -> flock.jump(2, 5 + way[0], 5 + way[1]));
                fails(UNSUPPORTED, "beside one with a higher number " + way[0] + "," + way[1],
                        () -> flock.jump(0, 5 + way[0], 5 + way[1]));
                BasketFlock own = Flocks.at(5, 5);
                is("beside its own cell only " + way[0] + "," + way[1], own.jump(0, 5 + way[0], 5 + way[1]), 1);
            }
            is("nobody jumped", Flocks.cells(flock), "0,0 5,5 9,9");
        });
    }

    private static void setHandle() {
        test(4, "Changes the handle of a basket.", () -> {
            BasketFlock flock = Flocks.at(0, 0, 5, 5, 9, 9);
            flock.setHandle(1, 2);
            is("its handle", flock.handleOf(1), 2);
            is("not that of the one before", flock.handleOf(0), 0);
            flock.setHandle(1, 0);
            is("not that of the one behind", flock.handleOf(2), 2);
        });
        test(4, "`basket`: the basket", () -> {
            BasketFlock flock = Flocks.full();
            is("the first one", flock.setHandle(0, 2), 0);
            is("the last one", flock.setHandle(9, 1), 0);
            is("both", flock.handleOf(0) * 10 + flock.handleOf(9), 21);
        });
        test(4, "`handle`: the handle, 0 to 2", () -> keepsEach("handle", 0, 2, handle -> {
            BasketFlock flock = Flocks.at(5, 5);
            flock.setHandle(0, handle);
            return flock.handleOf(0);
        }));
        test(4, "Returns the previous handle.", () -> {
            BasketFlock flock = Flocks.at(0, 0, 5, 5);
            is("the one that it was added with", flock.setHandle(1, 2), 1);
            is("the one that was set", flock.setHandle(1, 2), 2);
            is("the same one", flock.setHandle(1, 0), 2);
            is("the least one", flock.setHandle(1, 1), 0);
        });
        test(4, "Throws `IndexOutOfBoundsException`", () -> {
            failsOutside(INDEX, "one basket, basket", 0, 0, basket -> Flocks.at(0, 0).setHandle(basket, 1));
            failsOutside(INDEX, "ten baskets, basket", 0, 9, basket -> Flocks.full().setHandle(basket, 1));
            fails(INDEX, "no baskets, basket 0", () -> new BasketFlock().setHandle(0, 1));
        });
        test(4, "Throws `IllegalArgumentException`", () -> {
            BasketFlock flock = Flocks.at(0, 0, 5, 5);
            failsOutside(ARGUMENT, "handle", 0, 2, handle -> flock.setHandle(1, handle));
            is("the handle stays", flock.handleOf(1), 1);
        });
    }

    private static void basketCount() {
        test(5, "Returns the number of baskets.", () -> {
            BasketFlock flock = new BasketFlock();
            is("no baskets", flock.basketCount(), 0);
            for (int count = 1; count <= 10; count++) {
                flock.addBasket(count, count, 0);
                is("one basket more", flock.basketCount(), count);
            }
            fails(STATE, "an eleventh basket", () -> flock.addBasket(0, 11, 0));
            is("all places taken", flock.basketCount(), 10);
            flock.undo();
            is("one undone", flock.basketCount(), 9);
        });
    }

    private static void coordinates() {
        test(6, "Returns the x coordinate of a basket.", () -> {
            BasketFlock flock = Flocks.at(3, 7);
            is("where it was added", flock.xOf(0), 3);
            flock.jump(0, 8, 1);
            is("where it jumped", flock.xOf(0), 8);
            flock.setTarget(11, 1);
            flock.advance(1);
            is("where it moved", flock.xOf(0), 9);
        });
        test(6, "`basket`: the basket", () -> {
            is("the first one", Flocks.full().xOf(0), 0);
            is("the last one", Flocks.full().xOf(9), 6);
        });
        test(6, "Returns the coordinate.", () -> keepsEach("x", 0, 11, x -> Flocks.at(x, 3).xOf(0)));
        test(6, "Throws `IndexOutOfBoundsException`", () -> {
            failsOutside(INDEX, "one basket, basket", 0, 0, basket -> Flocks.at(0, 0).xOf(basket));
            failsOutside(INDEX, "ten baskets, basket", 0, 9, basket -> Flocks.full().xOf(basket));
            fails(INDEX, "no baskets, basket 0", () -> new BasketFlock().xOf(0));
        });
        test(7, "Returns the y coordinate of a basket.", () -> {
            BasketFlock flock = Flocks.at(3, 7);
            is("where it was added", flock.yOf(0), 7);
            flock.jump(0, 8, 1);
            is("where it jumped", flock.yOf(0), 1);
            flock.setTarget(8, 4);
            flock.advance(1);
            is("where it moved", flock.yOf(0), 2);
        });
        test(7, "`basket`: the basket", () -> {
            is("the first one", Flocks.full().yOf(0), 0);
            is("the last one", Flocks.full().yOf(9), 3);
        });
        test(7, "Returns the coordinate.", () -> keepsEach("y", 0, 11, y -> Flocks.at(3, y).yOf(0)));
        test(7, "Throws `IndexOutOfBoundsException`", () -> {
            failsOutside(INDEX, "one basket, basket", 0, 0, basket -> Flocks.at(0, 0).yOf(basket));
            failsOutside(INDEX, "ten baskets, basket", 0, 9, basket -> Flocks.full().yOf(basket));
            fails(INDEX, "no baskets, basket 0", () -> new BasketFlock().yOf(0));
        });
    }

    private static void handleOf() {
        test(8, "Returns the handle of a basket.", () -> {
            BasketFlock flock = Flocks.at(3, 7, 5, 5);
            is("the one that it was added with", flock.handleOf(1), 1);
            flock.setHandle(1, 2);
            is("the one that was set", flock.handleOf(1), 2);
        });
        test(8, "`basket`: the basket", () -> {
            is("the first one", Flocks.full().handleOf(0), 0);
            is("the last one", tenWithLast(11, 11, 2).handleOf(9), 2);
        });
        test(8, "Returns the handle.", () ->
                keepsEach("handle", 0, 2, handle -> tenWithLast(11, 11, handle).handleOf(9)));
        test(8, "Throws `IndexOutOfBoundsException`", () -> {
            failsOutside(INDEX, "one basket, basket", 0, 0, basket -> Flocks.at(0, 0).handleOf(basket));
            failsOutside(INDEX, "ten baskets, basket", 0, 9, basket -> Flocks.full().handleOf(basket));
            fails(INDEX, "no baskets, basket 0", () -> new BasketFlock().handleOf(0));
        });
    }

    private static void basketAt() {
        test(9, "Returns the basket in a cell.", () -> {
            BasketFlock flock = Flocks.at(3, 7, 7, 3);
            is("the first one", flock.basketAt(3, 7), 0);
            is("the other one", flock.basketAt(7, 3), 1);
            flock.jump(0, 9, 9);
            is("where it jumped", flock.basketAt(9, 9), 0);
        });
        test(9, "`x`: the x coordinate, 0 to 11", () -> {
            for (int x = 0; x <= 11; x++) {
                is("x " + x, Flocks.at(x, 5).basketAt(x, 5), 0);
            }
        });
        test(9, "`y`: the y coordinate, 0 to 11", () -> {
            for (int y = 0; y <= 11; y++) {
                is("y " + y, Flocks.at(5, y).basketAt(5, y), 0);
            }
        });
        test(9, "Returns the basket.", () -> keepsEach("basket", 0, 9, basket -> {
            BasketFlock flock = Flocks.full();
            return flock.basketAt(flock.xOf(basket), flock.yOf(basket));
        }));
        test(9, "Throws `IllegalArgumentException`", () -> {
            failsOutside(ARGUMENT, "x", 0, 11, x -> Flocks.full().basketAt(x, 3));
            failsOutside(ARGUMENT, "y", 0, 11, y -> Flocks.full().basketAt(0, y));
        });
        test(9, "Throws `NoSuchElementException`", () -> {
            BasketFlock flock = Flocks.withClouds(Flocks.at(5, 5), 8, 8);
            fails(NONE, "no baskets", () -> new BasketFlock().basketAt(0, 0));
            fails(NONE, "an empty corner", () -> flock.basketAt(0, 0));
            fails(NONE, "a cloud", () -> flock.basketAt(8, 8));
            fails(NONE, "the same x", () -> flock.basketAt(5, 4));
            fails(NONE, "the same y", () -> flock.basketAt(4, 5));
            flock.jump(0, 2, 2);
            fails(NONE, "left by a jump", () -> flock.basketAt(5, 5));
            flock.setTarget(2, 3);
            flock.advance(1);
            fails(NONE, "left by a move", () -> flock.basketAt(2, 2));
        });
    }

    private static void distance() {
        test(10, "Returns the distance of two baskets.", () -> {
            BasketFlock flock = Flocks.at(0, 0, 11, 11, 0, 11, 11, 0);
            is("the greatest", flock.distance(0, 1), 22);
            is("the other way round", flock.distance(1, 0), 22);
            is("aslant the other way", flock.distance(2, 3), 22);
            is("along y", flock.distance(0, 2), 11);
            is("along x", flock.distance(0, 3), 11);
            is("the least of two", Flocks.at(5, 5, 6, 6).distance(0, 1), 2);
        });
        test(10, "`basket`: the basket", () -> {
            is("the first one", Flocks.full().distance(0, 5), 10);
            is("the last one", Flocks.full().distance(9, 5), 7);
        });
        test(10, "`other`: the other basket, possibly the same", () -> {
            is("the first one", Flocks.full().distance(5, 0), 10);
            is("the last one", Flocks.full().distance(5, 9), 7);
            is("the same", Flocks.full().distance(5, 5), 0);
            is("the only one", Flocks.at(3, 8).distance(0, 0), 0);
        });
        test(10, "Returns the distance.", () -> {
            for (int distance = 2; distance <= 11; distance++) {
                is("distance " + distance, Flocks.at(0, 0, distance, 0).distance(0, 1), distance);
                is("distance " + (11 + distance), Flocks.at(0, 0, distance, 11).distance(0, 1), 11 + distance);
            }
        });
        test(10, "Throws `IndexOutOfBoundsException`", () -> {
            failsOutside(INDEX, "basket", 0, 1, basket -> Flocks.at(0, 0, 5, 5).distance(basket, 0));
            failsOutside(INDEX, "other", 0, 1, other -> Flocks.at(0, 0, 5, 5).distance(0, other));
            failsOutside(INDEX, "both", 0, 1, both -> Flocks.at(0, 0, 5, 5).distance(both, both));
            failsOutside(INDEX, "ten baskets, basket", 0, 9, basket -> Flocks.full().distance(basket, 0));
            failsOutside(INDEX, "ten baskets, other", 0, 9, other -> Flocks.full().distance(0, other));
            fails(INDEX, "no baskets", () -> new BasketFlock().distance(0, 0));
        });
    }

    private static void nearestTo() {
        test(11, "Returns the basket that is nearest to a basket, other than itself.", () -> {
            BasketFlock flock = Flocks.at(0, 0, 5, 0, 9, 0);
            is("of the first one", flock.nearestTo(0), 1);
            is("of the one between", flock.nearestTo(1), 2);
            is("of the last one", flock.nearestTo(2), 1);
            is("of two, the other one", Flocks.at(0, 0, 11, 11).nearestTo(0), 1);
            is("of two, the other one", Flocks.at(0, 0, 11, 11).nearestTo(1), 0);
        });
        test(11, "If several baskets are the nearest, the one with the lowest number is returned.", () -> {
            BasketFlock flock = Flocks.at(5, 5, 5, 2, 8, 5, 5, 8, 2, 5);
            is("four, of the lowest one", flock.nearestTo(0), 1);
            BasketFlock last = Flocks.at(0, 0, 5, 8, 8, 5, 5, 2, 5, 5);
            is("three, of the last one", last.nearestTo(4), 1);
            BasketFlock middle = Flocks.at(3, 5, 5, 5, 7, 5);
            is("two, of the one between", middle.nearestTo(1), 0);
            BasketFlock nearerBehind = Flocks.at(5, 5, 5, 1, 5, 8, 8, 5);
            is("a nearer one behind a farther one", nearerBehind.nearestTo(0), 2);
        });
        test(11, "`basket`: the basket", () -> {
            is("the first one", Flocks.full().nearestTo(0), 1);
            is("the last one", Flocks.full().nearestTo(9), 8);
        });
        test(11, "Returns the nearest basket.", () -> {
            BasketFlock flock = Flocks.at(0, 0, 11, 11);
            is("far away", flock.nearestTo(0), 1);
            flock.addBasket(11, 9, 0);
            is("a nearer one was added", flock.nearestTo(0), 2);
            flock.undo();
            is("it was undone", flock.nearestTo(0), 1);
        });
        test(11, "Throws `IndexOutOfBoundsException`", () -> {
            failsOutside(INDEX, "one basket, basket", 0, 0, basket -> Flocks.at(0, 0).nearestTo(basket));
            failsOutside(INDEX, "ten baskets, basket", 0, 9, basket -> Flocks.full().nearestTo(basket));
            fails(INDEX, "no baskets, basket 0", () -> new BasketFlock().nearestTo(0));
        });
        test(11, "Throws `NoSuchElementException`", () -> {
            fails(NONE, "the only basket", () -> Flocks.at(5, 5).nearestTo(0));
            BasketFlock undone = Flocks.at(0, 0, 5, 5);
            undone.undo();
            fails(NONE, "the only one that is left", () -> undone.nearestTo(0));
        });
    }

    private static void refuse(BasketFlock flock, int x, int y) {
        fails(UNSUPPORTED, "refused in " + x + "," + y, () -> flock.addBasket(x, y, 0));
    }

    private static void refusalReason() {
        test(12, "Returns the reason of the refusal that was kept last.", () -> {
            BasketFlock flock = Flocks.withClouds(Flocks.at(5, 5), 8, 8);
            refuse(flock, 8, 8);
            is("the only one", flock.refusalReason(), 1);
            refuse(flock, 5, 6);
            is("the later one", flock.refusalReason(), 2);
            fails(UNSUPPORTED, "a refused jump", () -> flock.jump(0, 8, 8));
            is("that of a jump", flock.refusalReason(), 1);
        });
        test(12, "Returns 1 for a cloud, 2 for a basket that would be touched.", () -> {
            BasketFlock flock = Flocks.withClouds(Flocks.at(5, 5, 7, 5), 6, 5);
            refuse(flock, 6, 5);
            is("a cloud beside baskets", flock.refusalReason(), 1);
            refuse(flock, 5, 5);
            is("a basket in the cell", flock.refusalReason(), 2);
            flock.removeCloud(6, 5);
            refuse(flock, 6, 5);
            is("a basket at distance 1", flock.refusalReason(), 2);
        });
        test(12, "Throws `NoSuchElementException`", () -> {
            fails(NONE, "a new object", () -> new BasketFlock().refusalReason());
            fails(NONE, "other exceptions only", () -> failedOtherwise().refusalReason());
        });
    }

    /** Everything that fails without a refused placing. */
    private static BasketFlock failedOtherwise() {
        BasketFlock flock = Flocks.full();
        fails(ARGUMENT, "out of the sky", () -> flock.addBasket(12, 0, 0));
        fails(STATE, "all places taken, in the cell of a basket", () -> flock.addBasket(0, 0, 0));
        fails(INDEX, "no such basket, in the cell of a basket", () -> flock.jump(10, 0, 0));
        fails(ARGUMENT, "a jump out of the sky", () -> flock.jump(0, 0, 12));
        fails(UNSUPPORTED, "a cloud on a basket", () -> flock.addCloud(0, 0));
        return flock;
    }

    private static void refusalDetail() {
        test(13, "Returns the detail of the refusal that was kept last.", () -> {
            BasketFlock flock = Flocks.withClouds(Flocks.at(0, 0, 5, 5), 8, 8, 9, 9, 10, 10);
            refuse(flock, 8, 8);
            is("the only one", flock.refusalDetail(), 3);
            flock.removeCloud(10, 10);
            is("as it was then", flock.refusalDetail(), 3);
            refuse(flock, 5, 6);
            is("the later one", flock.refusalDetail(), 1);
        });
        test(13, "Returns the number of clouds for a cloud", () -> {
            BasketFlock flock = Flocks.at(5, 5, 4, 6, 6, 6, 5, 7);
            for (int clouds = 1; clouds <= 8; clouds++) {
                flock.addCloud(clouds, 0);
                refuse(flock, 1, 0);
                is("clouds", flock.refusalDetail(), clouds);
            }
            refuse(flock, 5, 6);
            is("the lowest of four", flock.refusalDetail(), 0);
            refuse(flock, 6, 7);
            is("the lowest of two", flock.refusalDetail(), 2);
            fails(UNSUPPORTED, "a jump of the lowest of four", () -> flock.jump(0, 5, 6));
            is("the lowest other one", flock.refusalDetail(), 1);
            refuse(flock, 5, 8);
            is("the last one", flock.refusalDetail(), 3);
        });
        test(13, "Throws `NoSuchElementException`", () -> {
            fails(NONE, "a new object", () -> new BasketFlock().refusalDetail());
            fails(NONE, "other exceptions only", () -> failedOtherwise().refusalDetail());
        });
    }
}
