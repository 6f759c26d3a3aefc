import java.util.function.IntFunction;

/** The sentences that stand before the promises, about the sky, baskets, leaders, steps and formations. */
final class TermSentences extends SentenceTests {
    private static final int[][] WAYS = {{0, 1}, {1, 0}, {0, -1}, {-1, 0}};

    private TermSentences() {
    }

    static void run() {
        calls();
        sky();
        baskets();
        neverTouching();
        placing();
        leaders();
        possibleCells();
        order();
        leaderMoves();
        leaderDetours();
        others();
        othersWait();
        keep();
        shapes();
        shapeCells();
        stepEnds();
        formations();
    }

    private static void calls() {
        test(0, "An object is used for at most 512 calls", () -> {
            BasketFlock flock = new BasketFlock();
            for (int call = 1; call < 512; call++) {
                flock.advance(20);
            }
            is("the 512th call", flock.stepCount(), 511 * 20);
            BasketFlock failing = new BasketFlock();
            for (int call = 1; call <= 512; call++) {
                fails(STATE, "failing call " + call, failing::undo);
            }
        });
    }

    /** The call fails with each cell around the sky. */
    private static void failsAround(String what, CellCall call) {
        for (int along = -1; along <= 12; along++) {
            int at = along;
            fails(ARGUMENT, what + " on the left " + at, () -> call.answer(-1, at));
            fails(ARGUMENT, what + " on the right " + at, () -> call.answer(12, at));
            fails(ARGUMENT, what + " below " + at, () -> call.answer(at, -1));
            fails(ARGUMENT, what + " above " + at, () -> call.answer(at, 12));
        }
    }

    private interface CellCall {
        Object answer(int x, int y);
    }

    private static void sky() {
        test(0, "The sky consists of cells with the coordinates x and y from 0 to 11.", () -> {
            for (int y = 0; y <= 11; y++) {
                for (int x = 0; x <= 11; x++) {
                    String cell = x + "," + y;
                    BasketFlock flock = Flocks.at(x, y);
                    is("a basket in " + cell, flock.basketAt(x, y), 0);
                    is("a target in " + cell, flock.setTarget(x, y), 0);
                    is("a jump to " + cell, flock.jump(0, x, y), 0);
                    BasketFlock clouded = new BasketFlock();
                    is("a cloud in " + cell, clouded.addCloud(x, y), 1);
                    is("a cloud is seen in " + cell, clouded.isCloud(x, y), true);
                    is("a cloud is gone from " + cell, clouded.removeCloud(x, y), 0);
                }
            }
            BasketFlock flock = Flocks.at(5, 5);
            failsAround("a basket", (x, y) -> flock.addBasket(x, y, 0));
            failsAround("a jump", (x, y) -> flock.jump(0, x, y));
            failsAround("a look for a basket", flock::basketAt);
            failsAround("a cloud", flock::addCloud);
            failsAround("a removal", flock::removeCloud);
            failsAround("a look for a cloud", flock::isCloud);
            failsAround("a target", flock::setTarget);
            failsOutside(ARGUMENT, "row", 0, 11, flock::describeRow);
        });
        test(0, "The distance of two cells is", () -> {
            for (int x = 0; x <= 11; x++) {
                for (int y = 0; y <= 11; y++) {
                    int due = (x > 5 ? x - 5 : 5 - x) + (y > 6 ? y - 6 : 6 - y);
                    is("from 5,6 to " + x + "," + y, Flocks.at(5, 6).jump(0, x, y), due);
                    is("from 5,6 to the target " + x + "," + y, Flocks.at(5, 6).setTarget(x, y), due);
                }
            }
            is("the sky does not close behind x 11", Flocks.at(0, 0, 11, 0).distance(0, 1), 11);
            is("the sky does not close behind y 11", Flocks.at(0, 0, 0, 11).distance(0, 1), 11);
        });
        test(0, "At most 8 clouds are in the sky, each in a cell of its own.", () -> {
            BasketFlock flock = new BasketFlock();
            for (int cloud = 0; cloud < 8; cloud++) {
                is("one cloud more", flock.addCloud(cloud, cloud), cloud + 1);
                int x = cloud;
                fails(STATE, "another one in its cell", () -> flock.addCloud(x, x));
            }
            fails(STATE, "a ninth one", () -> flock.addCloud(11, 0));
            fails(STATE, "a ninth one by a command", () -> Flocks.run(flock, "cloud 11,0"));
            is("one removed and one put", Flocks.run(flock, "clear 0,0;cloud 11,0"), 2);
            is("eight are left", flock.cloudCount(), 8);
        });
    }

    private static void baskets() {
        test(0, "There are at most 10 baskets, numbered from 0.", () -> {
            BasketFlock flock = new BasketFlock();
            fails(INDEX, "no basket 0 yet", () -> flock.xOf(0));
            keepsEach("number", 0, 9, basket -> flock.addBasket(basket, 11 - basket, 0));
            keepsEach("basket", 0, 9, flock::xOf);
            fails(INDEX, "no basket 10", () -> flock.xOf(10));
            fails(STATE, "no eleventh one", () -> flock.addBasket(0, 0, 0));
            fails(STATE, "no eleventh one by a command", () -> Flocks.run(flock, "add 0,0 0"));
            is("ten are left", flock.basketCount(), 10);
        });
        test(0, "A basket is in a cell and has a handle from 0 to 2.", () -> {
            IntFunction<BasketFlock> handled = handle -> {
                BasketFlock flock = new BasketFlock();
                flock.addBasket(3, 8, handle);
                return flock;
            };
            keepsEach("added handle", 0, 2, handle -> handled.apply(handle).handleOf(0));
            keepsEach("previous handle", 0, 2, handle -> handled.apply(handle).setHandle(0, 1));
            failsOutside(ARGUMENT, "added handle", 0, 2, handled);
            failsOutside(ARGUMENT, "set handle", 0, 2, handle -> handled.apply(0).setHandle(0, handle));
            is("its cell", Flocks.cells(handled.apply(0)), "3,8");
        });
        test(0, "Two baskets touch if their distance is less than 2.", () -> {
            for (int x = 2; x <= 8; x++) {
                for (int y = 2; y <= 8; y++) {
                    int cellX = x;
                    int cellY = y;
                    if (Math.abs(x - 5) + Math.abs(y - 5) < 2) {
                        fails(UNSUPPORTED, "5,5 and " + x + "," + y, () -> Flocks.at(5, 5, cellX, cellY));
                    } else {
                        is("5,5 and " + x + "," + y, Flocks.at(5, 5, x, y).basketCount(), 2);
                    }
                }
            }
            is("not across the edges of the sky", Flocks.at(0, 5, 11, 5, 5, 0, 5, 11).basketCount(), 4);
            is("not from row to row", Flocks.at(11, 5, 0, 6).basketCount(), 2);
        });
    }

    private static boolean anyTouchOrInCloud(BasketFlock flock) {
        for (int basket = 0; basket < flock.basketCount(); basket++) {
            if (flock.isCloud(flock.xOf(basket), flock.yOf(basket))) {
                return true;
            }
            for (int other = 0; other < basket; other++) {
                if (flock.distance(basket, other) < 2) {
                    return true;
                }
            }
        }
        return false;
    }

    private static void neverTouching() {
        test(0, "Baskets never touch and are never in a cell with a cloud.", () -> {
            BasketFlock flock = Flocks.withClouds(Flocks.full(), 5, 5, 6, 5, 7, 5, 5, 6, 9, 9, 9, 10, 10, 9, 11, 11);
            flock.setKeep(2);
            flock.setTurnLength(2);
            int[] targets = {11, 11, 0, 11, 6, 6, 9, 9, 11, 0, 0, 0};
            for (int i = 0; i < targets.length; i += 2) {
                flock.setTarget(targets[i], targets[i + 1]);
                for (int step = 0; step < 20; step++) {
                    flock.advance(1);
                    is("towards " + targets[i] + "," + targets[i + 1], anyTouchOrInCloud(flock), false);
                }
            }
            BasketFlock few = Flocks.withClouds(Flocks.at(5, 5, 8, 8), 3, 3);
            fails(UNSUPPORTED, "a cloud on a basket", () -> few.addCloud(5, 5));
            fails(UNSUPPORTED, "a basket in a cloud", () -> few.addBasket(3, 3, 0));
            fails(UNSUPPORTED, "a jump into a cloud", () -> few.jump(0, 3, 3));
            fails(UNSUPPORTED, "a basket beside a basket", () -> few.addBasket(5, 4, 0));
            fails(UNSUPPORTED, "a jump beside a basket", () -> few.jump(1, 5, 4));
            is("none of it", anyTouchOrInCloud(few), false);
        });
    }

    private static void placing() {
        test(0, "Placing a basket in a cell is refused if a cloud is in the cell", () -> {
            BasketFlock flock = Flocks.withClouds(Flocks.at(5, 5, 9, 9), 6, 5, 0, 0);
            fails(UNSUPPORTED, "a cloud far from baskets", () -> flock.addBasket(0, 0, 0));
            is("its reason", flock.refusalReason(), 1);
            fails(UNSUPPORTED, "a touched basket, far from clouds", () -> flock.addBasket(9, 8, 0));
            is("its reason", flock.refusalReason(), 2);
            fails(UNSUPPORTED, "a cloud and a touched basket", () -> flock.addBasket(6, 5, 0));
            is("its reason is the cloud", flock.refusalReason(), 1);
            fails(UNSUPPORTED, "a jump to a cloud and a touched basket", () -> flock.jump(1, 6, 5));
            is("its reason is the cloud", flock.refusalReason(), 1);
            is("beside a cloud, at distance 2 of a basket", flock.addBasket(7, 5, 0), 2);
            is("beside itself", flock.jump(0, 5, 6), 1);
        });
        test(0, "The reason and the detail of the latest refusal are kept.", () -> {
            BasketFlock flock = Flocks.withClouds(Flocks.at(0, 0, 5, 5), 9, 9, 9, 0);
            fails(UNSUPPORTED, "a cloud", () -> flock.addBasket(9, 9, 0));
            flock.removeCloud(9, 0);
            is("it is added later", flock.addBasket(9, 0, 0), 2);
            fails(ARGUMENT, "another exception", () -> flock.addBasket(12, 0, 0));
            is("both are kept", flock.refusalReason() * 10 + flock.refusalDetail(), 12);
            fails(UNSUPPORTED, "a touched basket", () -> flock.jump(0, 5, 4));
            is("both are replaced", flock.refusalReason() * 10 + flock.refusalDetail(), 21);
        });
    }

    private static void leaders() {
        test(0, "The first basket that is added becomes the leader.", () -> {
            BasketFlock flock = new BasketFlock();
            flock.advance(7);
            flock.addBasket(5, 5, 0);
            is("after steps without baskets", flock.leader(), 0);
            flock.addBasket(7, 5, 0);
            is("not the second one", flock.leader(), 0);
            flock.advance(3);
            is("steps without baskets were not led", flock.leader(), 0);
            flock.advance(1);
            is("it has led for 4 steps", flock.leader(), 1);
            BasketFlock again = Flocks.at(5, 5);
            again.advance(3);
            again.undo();
            again.undo();
            again.addBasket(0, 0, 0);
            again.addBasket(9, 9, 0);
            again.advance(3);
            is("leading begins again after undo", again.leader(), 0);
        });
        test(0, "When a basket has led for as many steps as the turn length says", () -> {
            for (int baskets = 1; baskets <= 10; baskets++) {
                for (int turn = 2; turn <= 9; turn++) {
                    takingTurns(baskets, turn);
                }
            }
            BasketFlock growing = Flocks.at(5, 5);
            growing.advance(4);
            is("the only one follows itself", growing.leader(), 0);
            growing.addBasket(7, 5, 0);
            growing.advance(4);
            is("one that was added later", growing.leader(), 1);
            growing.addBasket(9, 5, 0);
            growing.advance(4);
            is("one that was added in the last turn", growing.leader(), 2);
            growing.advance(4);
            is("basket 0 after the last one", growing.leader(), 0);
        });
        test(0, "The turn length is initially 4.", () -> {
            is("the turn length", new BasketFlock().turnLength(), 4);
            BasketFlock flock = Flocks.at(5, 5, 7, 5);
            flock.advance(3);
            is("after 3 steps", flock.leader(), 0);
            flock.advance(1);
            is("after 4 steps", flock.leader(), 1);
        });
    }

    private static void takingTurns(int baskets, int turn) {
        BasketFlock flock = new BasketFlock();
        for (int basket = 0; basket < baskets; basket++) {
            flock.addBasket(basket, basket, 0);
        }
        flock.setTurnLength(turn);
        StringBuilder leaders = new StringBuilder();
        StringBuilder due = new StringBuilder();
        for (int step = 0; step < turn * (baskets + 1); step++) {
            leaders.append(flock.leader());
            due.append(step / turn == baskets ? 0 : step / turn);
            flock.advance(1);
        }
        is(baskets + " baskets, turn length " + turn, leaders.toString(), due.toString());
    }

    private static String afterStep(BasketFlock flock) {
        flock.advance(1);
        return Flocks.cells(flock);
    }

    private static String afterStepTo(BasketFlock flock, int x, int y) {
        flock.setTarget(x, y);
        return afterStep(flock);
    }

    private static void possibleCells() {
        test(0, "A cell is possible for a basket if it is in the sky, no cloud is in it", () -> {
            is("an empty cell", afterStepTo(Flocks.at(0, 0), 1, 0), "1,0");
            is("a cloud in it", afterStepTo(Flocks.withClouds(Flocks.at(0, 0), 1, 0), 1, 0), "0,0");
            is("a cloud beside it", afterStepTo(Flocks.withClouds(Flocks.at(0, 0), 1, 1, 2, 0), 1, 0), "1,0");
            is("it would touch a later basket", afterStepTo(Flocks.at(4, 4, 6, 4), 5, 4), "4,4 6,4");
            is("it would touch a basket aslant", afterStepTo(Flocks.at(4, 4, 5, 5), 5, 4), "4,4 5,5");
            is("its own cell beside it does not count", afterStepTo(Flocks.at(4, 4, 7, 4), 5, 4), "5,4 7,4");
            is("a follower and a cloud", afterStep(Flocks.withClouds(Flocks.at(5, 0, 0, 0), 1, 0)), "5,0 0,0");
            is("a follower and a basket", afterStep(Flocks.at(5, 0, 0, 0, 2, 0)), "5,0 0,0 2,0");
            is("the edges of the sky", afterStepTo(Flocks.at(10, 0), 11, 0), "11,0");
        });
    }

    private static void order() {
        test(0, "In one step, the following things happen in this order.", () -> {
            BasketFlock flock = Flocks.at(3, 0, 0, 0);
            is("the leader before the others", afterStepTo(flock, 9, 0), "4,0 1,0");
            BasketFlock nearing = Flocks.at(0, 0, 8, 0);
            is("another one moves", afterStep(nearing), "0,0 7,0");
            is("the shape after the others", nearing.stepsSinceShape(), 0);
            BasketFlock leading = Flocks.at(0, 0, 0, 2);
            is("the leader moves", afterStepTo(leading, 1, 0), "1,0 0,2");
            is("the shape after the leader", leading.stepsSinceShape(), 0);
            BasketFlock passing = Flocks.at(0, 0, 8, 0);
            passing.setTarget(4, 0);
            passing.setTurnLength(2);
            is("the first step of the turn", afterStep(passing), "1,0 7,0");
            is("the last step of the turn", afterStep(passing), "2,0 6,0");
            is("the leader from then on", passing.leader(), 1);
            is("the first step of the next turn", afterStep(passing), "2,0 5,0");
        });
    }

    private static void leaderMoves() {
        test(0, "First, if there is a target and the leader is in another cell", () -> {
            is("no target", afterStep(Flocks.at(4, 4)), "4,4");
            is("in its cell", afterStepTo(Flocks.at(4, 4), 4, 4), "4,4");
            is("the same difference", afterStepTo(Flocks.at(4, 4), 7, 7), "5,4");
            is("the same difference the other way", afterStepTo(Flocks.at(4, 4), 1, 1), "3,4");
            is("the same difference, less x", afterStepTo(Flocks.at(4, 4), 1, 7), "3,4");
            is("the same difference, less y", afterStepTo(Flocks.at(4, 4), 7, 1), "5,4");
            is("x differs by one more", afterStepTo(Flocks.at(4, 4), 7, 6), "5,4");
            is("y differs by one more", afterStepTo(Flocks.at(4, 4), 6, 7), "4,5");
            is("less y by one more", afterStepTo(Flocks.at(4, 4), 2, 1), "4,3");
            is("less x by one more", afterStepTo(Flocks.at(4, 4), 1, 2), "3,4");
            is("x alone", afterStepTo(Flocks.at(4, 4), 5, 4), "5,4");
            is("y alone", afterStepTo(Flocks.at(4, 4), 4, 5), "4,5");
            is("less x alone", afterStepTo(Flocks.at(4, 4), 3, 4), "3,4");
            is("less y alone", afterStepTo(Flocks.at(4, 4), 4, 3), "4,3");
            is("by one cell, from edge to edge", afterStepTo(Flocks.at(0, 5), 11, 5), "1,5");
            is("not the other baskets", afterStepTo(Flocks.at(4, 4, 6, 4), 0, 4), "3,4 6,4");
        });
    }

    private static String detour(int x, int y, int targetX, int targetY, int... clouds) {
        BasketFlock flock = Flocks.withClouds(Flocks.at(x, y), clouds);
        String cell = afterStepTo(flock, targetX, targetY);
        return cell + " waits " + flock.waitTotal() + " moves " + flock.movesOf(0);
    }

    private static void leaderDetours() {
        test(0, "If this cell is not possible, it moves along the other axis towards the target", () -> {
            is("greater y", detour(4, 4, 7, 7, 5, 4), "4,5 waits 0 moves 1");
            is("less y", detour(4, 4, 7, 1, 5, 4), "4,3 waits 0 moves 1");
            is("greater x", detour(4, 4, 6, 7, 4, 5), "5,4 waits 0 moves 1");
            is("less x", detour(4, 4, 2, 7, 4, 5), "3,4 waits 0 moves 1");
            is("by one, where it differs by one", detour(4, 4, 7, 5, 5, 4), "4,5 waits 0 moves 1");
            is("y does not differ", detour(4, 4, 7, 4, 5, 4), "4,4 waits 1 moves 0");
            is("x does not differ", detour(4, 4, 4, 7, 4, 5), "4,4 waits 1 moves 0");
            is("less x, y does not differ", detour(4, 4, 1, 4, 3, 4), "4,4 waits 1 moves 0");
            is("less y, x does not differ", detour(4, 4, 4, 1, 4, 3), "4,4 waits 1 moves 0");
            is("not away from the target", detour(4, 4, 7, 5, 5, 4, 4, 5), "4,4 waits 1 moves 0");
            is("past a touched basket", afterStepTo(Flocks.at(4, 4, 6, 4), 9, 9), "4,5 6,4");
        });
        test(0, "Otherwise it waits.", () -> {
            is("both cells are clouds", detour(0, 0, 3, 3, 1, 0, 0, 1), "0,0 waits 1 moves 0");
            is("one cell only", detour(0, 0, 1, 0, 1, 0), "0,0 waits 1 moves 0");
            BasketFlock flock = Flocks.withClouds(Flocks.at(0, 0, 3, 0), 1, 0);
            flock.setTarget(2, 0);
            flock.advance(4);
            is("once in each step", flock.waitTotal(), 4);
            is("who is on the target does not wait", detour(5, 5, 5, 5), "5,5 waits 0 moves 0");
            BasketFlock none = Flocks.at(5, 5);
            none.advance(20);
            is("without a target it does not wait", none.waitTotal(), 0);
        });
    }

    /** Where a basket goes in one step whose leader stays in 5,5. */
    private static String follow(int keep, int x, int y, int... clouds) {
        BasketFlock flock = Flocks.withClouds(Flocks.at(5, 5, x, y), clouds);
        flock.setKeep(keep);
        flock.advance(1);
        return flock.xOf(1) + "," + flock.yOf(1);
    }

    /** Basket 1 leads in 0,0; basket 0 and basket 2 are in its row. */
    private static BasketFlock ledByTheSecond(int xOfFirst, int xOfThird) {
        BasketFlock flock = Flocks.at(4, 4, 6, 4, 6, 6);
        flock.advance(4);
        flock.jump(0, xOfFirst, 0);
        flock.jump(1, 0, 0);
        flock.jump(2, xOfThird, 0);
        return flock;
    }

    private static void others() {
        test(0, "Second, the other baskets are visited in ascending order of their numbers.", () -> {
            is("1 makes way for 2", afterStep(Flocks.at(0, 0, 6, 0, 8, 0)), "0,0 5,0 7,0");
            is("2 is in the way of 1", afterStep(Flocks.at(0, 0, 8, 0, 6, 0)), "0,0 8,0 5,0");
            is("all of a row of ten", afterStep(Flocks.at(0, 11, 2, 5, 4, 5, 6, 5, 8, 5, 10, 5, 1, 0, 3, 0, 5, 0, 7, 0)),
                    "0,11 2,6 4,6 6,6 8,6 10,6 1,1 3,1 5,1 7,1");
            is("0 makes way for 2 when 1 leads", afterStep(ledByTheSecond(6, 8)), "5,0 0,0 7,0");
            is("2 is in the way of 0 when 1 leads", afterStep(ledByTheSecond(8, 6)), "8,0 0,0 5,0");
        });
        test(0, "A visited basket whose distance from the leader is greater than the keep moves by one cell", () -> {
            for (int keep = 2; keep <= 6; keep++) {
                is("at the keep " + keep, follow(keep, 5 - keep + 1, 4), (6 - keep) + ",4");
            }
            for (int keep = 2; keep <= 4; keep++) {
                is("beyond the keep " + keep, follow(keep, 4 - keep, 5), (5 - keep) + ",5");
            }
            is("beyond the keep 5", follow(5, 0, 4), "0,5");
            is("beyond the keep 6", follow(6, 0, 3), "0,4");
            is("below", follow(2, 5, 1), "5,2");
            is("on the left", follow(2, 1, 5), "2,5");
            is("above", follow(2, 5, 9), "5,8");
            is("on the right", follow(2, 9, 5), "8,5");
            is("below on the left", follow(2, 3, 3), "3,4");
            is("below on the right", follow(2, 7, 3), "7,4");
            is("above on the left", follow(2, 3, 7), "4,7");
            is("above on the right", follow(2, 7, 7), "7,6");
            is("below on the left, past a cloud", follow(2, 3, 3, 3, 4), "4,3");
            is("below on the right, past a cloud", follow(2, 7, 3, 7, 4), "6,3");
            is("above on the left, past a cloud", follow(2, 3, 7, 4, 7), "3,6");
            is("above on the right, past a cloud", follow(2, 7, 7, 7, 6), "6,7");
            is("by one cell, from the other edge", afterStep(Flocks.at(0, 5, 11, 5)), "0,5 10,5");
            is("past a touched basket", afterStep(Flocks.at(5, 5, 3, 2, 3, 4)), "5,5 4,2 3,4");
        });
    }

    private static void othersWait() {
        test(0, "If there is no such cell, it waits.", () -> {
            for (int[] way : WAYS) {
                int x = 5 + 4 * way[0];
                int y = 5 + 4 * way[1];
                is("the only nearer cell is a cloud " + x + "," + y,
                        follow(2, x, y, x - way[0], y - way[1]), x + "," + y);
            }
            is("both nearer cells are clouds, below on the left", follow(2, 3, 3, 3, 4, 4, 3), "3,3");
            is("both nearer cells are clouds, above on the right", follow(2, 7, 7, 7, 6, 6, 7), "7,7");
            BasketFlock flock = Flocks.withClouds(Flocks.at(5, 5, 3, 3, 9, 5), 3, 4, 4, 3, 8, 5);
            is("no move", flock.advance(3), 0);
            is("each one in each step", flock.waitTotal(), 6);
            flock.setKeep(4);
            flock.advance(1);
            is("at the keep it does not wait", flock.waitTotal(), 6);
        });
    }

    private static void keep() {
        test(0, "The keep is a distance from 2 to 6, initially 3.", () -> {
            is("initially", new BasketFlock().keep(), 3);
            is("at distance 3", afterStep(Flocks.at(5, 5, 5, 2)), "5,5 5,2");
            is("at distance 4", afterStep(Flocks.at(5, 5, 5, 1)), "5,5 5,2");
            keepsEach("keep", 2, 6, keep -> {
                BasketFlock flock = new BasketFlock();
                flock.setKeep(keep);
                return flock.keep();
            });
            failsOutside(ARGUMENT, "keep", 2, 6, keep -> new BasketFlock().setKeep(keep));
        });
    }

    private static void shapes() {
        test(0, "Third, if there are baskets, the shape of the flock is remembered.", () -> {
            BasketFlock flock = new BasketFlock();
            flock.advance(20);
            is("no baskets", flock.shapeCount(), 0);
            flock.addBasket(5, 5, 0);
            flock.advance(1);
            is("a single basket", flock.shapeCount(), 1);
            flock.addBasket(7, 5, 0);
            is("not without a step", flock.shapeCount(), 1);
            flock.advance(2);
            is("in each step, even if it stays", flock.shapeCount(), 3);
            Flocks.run(flock, "step 1;step 2");
            is("in the steps of commands", flock.shapeCount(), 6);
            flock.setTarget(6, 5);
            fails(NONE, "steps on a copy", flock::stepsToTarget);
            is("not in steps on a copy", flock.shapeCount(), 6);
        });
        test(0, "The latest 16 shapes are remembered.", () -> {
            BasketFlock flock = Flocks.at(0, 0, 2, 0);
            flock.advance(1);
            flock.jump(1, 1, 1);
            flock.advance(14);
            is("after 15 steps", flock.shapeCount(), 15);
            flock.advance(1);
            is("after 16 steps", flock.shapeCount(), 16);
            is("the first one and the other one", flock.differentShapes(), 2);
            flock.jump(1, 2, 0);
            is("the first one is remembered", flock.stepsSinceShape(), 15);
            flock.jump(1, 1, 1);
            flock.advance(1);
            is("after 17 steps", flock.shapeCount(), 16);
            is("the other one alone", flock.differentShapes(), 1);
            flock.jump(1, 2, 0);
            fails(NONE, "the first one is forgotten", flock::stepsSinceShape);
        });
    }

    /** Whether the second flock is of the shape that the first cells have; the keep holds them together. */
    private static boolean sameShape(int[] cells, int... moved) {
        BasketFlock flock = Flocks.at(cells);
        flock.setKeep(6);
        flock.advance(1);
        // Out of the way first, for they may not touch as they go.
        for (int basket = 0; basket < moved.length / 2; basket++) {
            flock.jump(basket, 11, 2 * basket);
        }
        for (int basket = 0; basket < moved.length / 2; basket++) {
            flock.jump(basket, moved[2 * basket], moved[2 * basket + 1]);
        }
        try {
            return flock.stepsSinceShape() == 0;
        } catch (java.util.NoSuchElementException none) {
            return false;
        }
    }

    private static void shapeCells() {
        test(0, "The shape of the flock is the set of cells in which baskets are, moved so that the least x", () -> {
            int[] hook = {3, 3, 3, 5, 4, 6};
            is("where it was", sameShape(hook, 3, 3, 3, 5, 4, 6), true);
            is("in the first corner", sameShape(hook, 0, 0, 0, 2, 1, 3), true);
            is("in the last corner", sameShape(hook, 10, 8, 10, 10, 11, 11), true);
            is("moved along x", sameShape(hook, 7, 3, 7, 5, 8, 6), true);
            is("moved along y", sameShape(hook, 3, 8, 3, 10, 4, 11), true);
            is("mirrored in x", sameShape(hook, 4, 3, 4, 5, 3, 6), false);
            is("mirrored in y", sameShape(hook, 3, 6, 3, 4, 4, 3), false);
            is("turned", sameShape(hook, 3, 3, 5, 3, 6, 4), false);
            is("one cell farther", sameShape(hook, 3, 3, 3, 5, 4, 7), false);
            is("the least x and the least y of two baskets",
                    sameShape(new int[] {2, 5, 5, 2}, 0, 3, 3, 0), true);
            is("the other way aslant", sameShape(new int[] {2, 5, 5, 2}, 0, 0, 3, 3), false);
            is("a single basket", sameShape(new int[] {0, 0}, 11, 11), true);
            BasketFlock wide = Flocks.withClouds(Flocks.at(0, 0, 11, 11), 10, 11, 11, 10);
            wide.advance(1);
            is("from corner to corner", wide.stepsSinceShape(), 0);
            wide.jump(1, 9, 11);
            fails(NONE, "not quite from corner to corner", wide::stepsSinceShape);
            BasketFlock more = Flocks.at(0, 0, 2, 0);
            more.advance(1);
            more.addBasket(0, 2, 0);
            fails(NONE, "a cell more", more::stepsSinceShape);
        });
        test(0, "It does not depend on which basket is where.", () -> {
            int[] hook = {3, 3, 3, 5, 4, 6};
            is("two changed their places", sameShape(hook, 3, 5, 3, 3, 4, 6), true);
            is("all changed their places", sameShape(hook, 4, 6, 3, 3, 3, 5), true);
            is("all changed their places elsewhere", sameShape(hook, 0, 2, 1, 3, 0, 0), true);
            BasketFlock flock = Flocks.at(3, 3, 3, 5);
            flock.advance(1);
            flock.setHandle(0, 2);
            is("nor on the handles", flock.stepsSinceShape(), 0);
        });
    }

    private static void stepEnds() {
        test(0, "Fourth, the number of steps increases by 1, and the leader has led for one step more", () -> {
            BasketFlock flock = Flocks.at(5, 5, 7, 5);
            for (int step = 1; step <= 9; step++) {
                flock.advance(1);
                is("the number of steps", flock.stepCount(), step);
                is("the leader after step " + step, flock.leader(), step / 4 % 2);
            }
            BasketFlock atOnce = Flocks.at(5, 5, 7, 5);
            atOnce.advance(4);
            is("four steps at once", atOnce.leader(), 1);
            atOnce.advance(8);
            is("a whole round at once", atOnce.leader(), 1);
            BasketFlock none = new BasketFlock();
            none.advance(2);
            is("steps without baskets increase the number", none.stepCount(), 2);
            BasketFlock waiting = Flocks.withClouds(Flocks.at(0, 0, 5, 5), 1, 0);
            waiting.setTarget(2, 0);
            waiting.advance(4);
            is("a leader that waits leads too", waiting.leader(), 1);
            BasketFlock alone = Flocks.at(5, 5);
            alone.advance(1);
            alone.addBasket(7, 5, 0);
            alone.advance(2);
            is("one step led alone, two with another one", alone.leader(), 0);
            alone.advance(1);
            is("one step led alone, three with another one", alone.leader(), 1);
        });
    }

    private static int formationsAt(int keep, int... cells) {
        BasketFlock flock = Flocks.at(cells);
        flock.setKeep(keep);
        is("the same by merging", flock.formationCountByMerging(), flock.formationCount());
        return flock.formationCount();
    }

    private static void formations() {
        test(0, "Two baskets are linked if their distance is at most the keep.", () -> {
            for (int keep = 2; keep <= 6; keep++) {
                is("at the keep " + keep, formationsAt(keep, 0, 0, keep, 0), 1);
                is("aslant at the keep " + keep, formationsAt(keep, 0, 0, keep - 1, 1), 1);
                is("beyond the keep " + keep, formationsAt(keep, 0, 0, keep + 1, 0), 2);
                is("aslant beyond the keep " + keep, formationsAt(keep, 0, 0, keep, 1), 2);
            }
            is("not across the edges of the sky", formationsAt(6, 0, 0, 11, 0, 0, 11, 11, 11), 4);
        });
        test(0, "A formation is a maximal set of baskets", () -> {
            is("a single basket", formationsAt(3, 5, 5), 1);
            is("two single baskets", formationsAt(3, 0, 0, 11, 11), 2);
            is("a row", formationsAt(2, 0, 0, 2, 0, 4, 0, 6, 0, 8, 0, 10, 0, 10, 2, 8, 2, 6, 2, 4, 2), 1);
            is("a row in another order", formationsAt(2, 0, 0, 8, 0, 4, 0, 2, 0, 10, 0, 6, 0), 1);
            is("a gap in the row", formationsAt(2, 0, 0, 2, 0, 5, 0, 7, 0), 2);
            is("a formation and a single basket", formationsAt(2, 0, 0, 11, 11, 2, 0), 2);
            BasketFlock flock = Flocks.at(0, 0, 3, 0, 6, 0, 9, 0);
            is("all of a chain", flock.largestFormation(), 4);
            is("from the last one to the first", flock.formationOf(3), 0);
        });
    }
}
