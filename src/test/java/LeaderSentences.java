/** The sentences of promises 18 to 26. */
final class LeaderSentences extends SentenceTests {
    private LeaderSentences() {
    }

    static void run() {
        setTurnLength();
        turnLength();
        leader();
        leaderAfter();
        leaderAfterByCounting();
        setTarget();
        target();
        stepsToTarget();
        stepsToTargetFails();
    }

    /** Two baskets that may stay where they are; the leader has led for so many steps. */
    private static BasketFlock two(int stepsLed) {
        BasketFlock flock = Flocks.at(5, 5, 7, 5);
        for (int step = 0; step < stepsLed; step++) {
            flock.advance(1);
        }
        return flock;
    }

    private static void setTurnLength() {
        test(18, "Sets the number of steps for which a basket leads.", () -> {
            for (int length = 2; length <= 9; length++) {
                BasketFlock flock = two(0);
                flock.setTurnLength(length);
                flock.advance(length - 1);
                is("one step before " + length, flock.leader(), 0);
                flock.advance(1);
                is("after " + length + " steps", flock.leader(), 1);
            }
        });
        test(18, "The steps that the leader has led so far are forgotten.", () -> {
            BasketFlock same = two(3);
            same.setTurnLength(4);
            same.advance(3);
            is("3 steps after the same length was set", same.leader(), 0);
            same.advance(1);
            is("4 steps after the same length was set", same.leader(), 1);
            BasketFlock less = two(3);
            less.setTurnLength(2);
            is("a length that has passed already", less.leader(), 0);
            less.advance(1);
            is("1 step after a length of 2 was set", less.leader(), 0);
            less.advance(1);
            is("2 steps after a length of 2 was set", less.leader(), 1);
            BasketFlock wrong = two(3);
            fails(ARGUMENT, "a wrong length", () -> wrong.setTurnLength(10));
            wrong.advance(1);
            is("a wrong length forgets nothing", wrong.leader(), 1);
        });
        test(18, "`steps`: the new number of steps, 2 to 9", () -> keepsEach("steps", 2, 9, steps -> {
            BasketFlock flock = new BasketFlock();
            flock.setTurnLength(steps);
            return flock.turnLength();
        }));
        test(18, "Returns the previous number of steps.", () -> {
            BasketFlock flock = new BasketFlock();
            is("the initial one", flock.setTurnLength(9), 4);
            is("the greatest one", flock.setTurnLength(2), 9);
            is("the least one", flock.setTurnLength(2), 2);
            is("the same one", flock.setTurnLength(3), 2);
        });
        test(18, "Throws `IllegalArgumentException`", () -> {
            failsOutside(ARGUMENT, "steps", 2, 9, steps -> new BasketFlock().setTurnLength(steps));
            fails(ARGUMENT, "steps 0", () -> new BasketFlock().setTurnLength(0));
        });
    }

    private static void turnLength() {
        test(19, "Returns the number of steps for which a basket leads.", () -> {
            BasketFlock flock = new BasketFlock();
            is("at first", flock.turnLength(), 4);
            flock.setTurnLength(7);
            fails(ARGUMENT, "a wrong length", () -> flock.setTurnLength(1));
            is("after a wrong length", flock.turnLength(), 7);
            flock.undo();
            is("after undo", flock.turnLength(), 4);
        });
        test(19, "Returns the number of steps.", () -> keepsEach("steps", 2, 9, steps -> {
            BasketFlock flock = two(1);
            flock.setTurnLength(steps);
            flock.advance(1);
            return flock.turnLength();
        }));
    }

    private static void leader() {
        test(20, "Returns the leader.", () -> {
            BasketFlock flock = two(0);
            is("at first", flock.leader(), 0);
            flock.advance(4);
            is("the next one", flock.leader(), 1);
            flock.undo();
            is("after undo", flock.leader(), 0);
        });
        test(20, "Returns the basket.", () -> {
            BasketFlock flock = Flocks.full();
            flock.setTurnLength(2);
            keepsEach("leader", 0, 9, basket -> {
                int leader = flock.leader();
                flock.advance(2);
                return leader;
            });
            is("the first one behind the last one", flock.leader(), 0);
        });
        test(20, "Throws `NoSuchElementException`", () -> {
            BasketFlock flock = new BasketFlock();
            fails(NONE, "a new object", flock::leader);
            flock.advance(5);
            fails(NONE, "steps without baskets", flock::leader);
            flock.addBasket(5, 5, 0);
            is("a basket", flock.leader(), 0);
            flock.undo();
            fails(NONE, "the only basket undone", flock::leader);
        });
    }

    private static String leadersByFormula(BasketFlock flock) {
        StringBuilder leaders = new StringBuilder();
        for (int steps = 0; steps <= 99; steps++) {
            leaders.append(flock.leaderAfter(steps));
        }
        return leaders.toString();
    }

    private static String leadersByCounting(BasketFlock flock) {
        StringBuilder leaders = new StringBuilder();
        for (int steps = 0; steps <= 99; steps++) {
            leaders.append(flock.leaderAfterByCounting(steps));
        }
        return leaders.toString();
    }

    private static String leadersInFact(BasketFlock flock) {
        StringBuilder leaders = new StringBuilder();
        for (int steps = 0; steps <= 99; steps++) {
            leaders.append(flock.leader());
            flock.advance(1);
        }
        return leaders.toString();
    }

    private static BasketFlock turning(int baskets, int turn, int stepsLed) {
        BasketFlock flock = new BasketFlock();
        for (int basket = 0; basket < baskets; basket++) {
            flock.addBasket(basket, basket, 0);
        }
        flock.setTurnLength(turn);
        for (int step = 0; step < stepsLed; step++) {
            flock.advance(1);
        }
        return flock;
    }

    private static void leaderAfter() {
        test(21, "Returns the basket that would be the leader after a number of steps, by a formula.", () -> {
            for (int baskets = 1; baskets <= 10; baskets++) {
                for (int turn = 2; turn <= 9; turn++) {
                    BasketFlock flock = turning(baskets, turn, 1 + baskets % turn);
                    String leaders = leadersByFormula(flock);
                    is(baskets + " baskets, turn length " + turn, leaders, leadersInFact(flock));
                }
            }
        });
        test(21, "`steps`: the number of steps, 0 to 99", () -> {
            is("0 steps", two(3).leaderAfter(0), 0);
            is("1 step", two(3).leaderAfter(1), 1);
            is("99 steps", two(0).leaderAfter(99), 0);
            is("99 steps, one led already", two(1).leaderAfter(99), 1);
        });
        test(21, "Returns the basket.", () -> {
            is("the only one", Flocks.at(5, 5).leaderAfter(99), 0);
            is("the last one", turning(10, 2, 0).leaderAfter(19), 9);
            is("the first one behind the last one", turning(10, 2, 0).leaderAfter(20), 0);
        });
        test(21, "Throws `IllegalArgumentException`", () ->
                failsOutside(ARGUMENT, "steps", 0, 99, steps -> two(0).leaderAfter(steps)));
        test(21, "Throws `NoSuchElementException`", () -> {
            fails(NONE, "no baskets, 0 steps", () -> new BasketFlock().leaderAfter(0));
            fails(NONE, "no baskets, 99 steps", () -> new BasketFlock().leaderAfter(99));
        });
    }

    private static void leaderAfterByCounting() {
        test(22, "Returns the same basket as leaderAfter(), found by counting step by step.", () -> {
            for (int baskets = 1; baskets <= 10; baskets++) {
                for (int turn = 2; turn <= 9; turn++) {
                    BasketFlock flock = turning(baskets, turn, 1 + baskets % turn);
                    String leaders = leadersByCounting(flock);
                    is(baskets + " baskets, turn length " + turn, leaders, leadersByFormula(flock));
                    is(baskets + " baskets in fact, turn length " + turn, leaders, leadersInFact(flock));
                }
            }
        });
        test(22, "`steps`: the number of steps, 0 to 99", () -> {
            is("0 steps", two(3).leaderAfterByCounting(0), 0);
            is("1 step", two(3).leaderAfterByCounting(1), 1);
            is("99 steps", two(0).leaderAfterByCounting(99), 0);
            is("99 steps, one led already", two(1).leaderAfterByCounting(99), 1);
        });
        test(22, "Returns the basket.", () -> {
            is("the only one", Flocks.at(5, 5).leaderAfterByCounting(99), 0);
            is("the last one", turning(10, 2, 0).leaderAfterByCounting(19), 9);
            is("the first one behind the last one", turning(10, 2, 0).leaderAfterByCounting(20), 0);
        });
        test(22, "Throws `IllegalArgumentException`", () ->
                failsOutside(ARGUMENT, "steps", 0, 99, steps -> two(0).leaderAfterByCounting(steps)));
        test(22, "Throws `NoSuchElementException`", () -> {
            fails(NONE, "no baskets, 0 steps", () -> new BasketFlock().leaderAfterByCounting(0));
            fails(NONE, "no baskets, 99 steps", () -> new BasketFlock().leaderAfterByCounting(99));
        });
    }

    private static void setTarget() {
        test(23, "Sets the target, which replaces an earlier one.", () -> {
            BasketFlock flock = Flocks.withClouds(Flocks.at(5, 5, 8, 8), 3, 3);
            flock.setTarget(1, 2);
            flock.setTarget(9, 4);
            is("the later x", flock.targetX(), 9);
            is("the later y", flock.targetY(), 4);
            flock.advance(1);
            is("towards the later one", Flocks.cells(flock), "6,5 8,7");
            is("in the cell of a cloud", flock.setTarget(3, 3), 5);
            is("in the cell of another basket", flock.setTarget(8, 7), 4);
        });
        test(23, "`x`: the x coordinate, 0 to 11", () -> keepsEach("x", 0, 11, x -> {
            BasketFlock flock = Flocks.at(5, 5);
            flock.setTarget(x, 7);
            return flock.targetX();
        }));
        test(23, "`y`: the y coordinate, 0 to 11", () -> keepsEach("y", 0, 11, y -> {
            BasketFlock flock = Flocks.at(5, 5);
            flock.setTarget(7, y);
            return flock.targetY();
        }));
        test(23, "Returns the distance of the leader from the target.", () -> {
            is("its own cell", Flocks.at(5, 5).setTarget(5, 5), 0);
            is("the farthest cell", Flocks.at(0, 0).setTarget(11, 11), 22);
            is("the farthest cell the other way", Flocks.at(11, 11).setTarget(0, 0), 22);
            is("not that of another basket", Flocks.at(0, 0, 5, 5).setTarget(5, 6), 11);
            BasketFlock later = two(4);
            is("that of a later leader", later.setTarget(8, 9), 5);
        });
        test(23, "Throws `IllegalArgumentException`", () -> {
            failsOutside(ARGUMENT, "x", 0, 11, x -> Flocks.at(5, 5).setTarget(x, 5));
            failsOutside(ARGUMENT, "y", 0, 11, y -> Flocks.at(5, 5).setTarget(5, y));
        });
        test(23, "Throws `NoSuchElementException`", () -> {
            BasketFlock flock = new BasketFlock();
            fails(NONE, "a new object", () -> flock.setTarget(0, 0));
            flock.addBasket(5, 5, 0);
            fails(NONE, "no target was set", flock::targetX);
            flock.undo();
            fails(NONE, "the only basket undone", () -> flock.setTarget(0, 0));
        });
    }

    private static void target() {
        test(24, "Returns the x coordinate of the target.", () -> {
            BasketFlock flock = Flocks.at(5, 5);
            flock.setTarget(3, 8);
            is("the target's", flock.targetX(), 3);
            flock.advance(20);
            is("when the leader has arrived", flock.targetX(), 3);
        });
        test(24, "Returns the coordinate.", () -> keepsEach("x", 0, 11, x -> {
            BasketFlock flock = Flocks.at(5, 5);
            flock.setTarget(x, 11);
            return flock.targetX();
        }));
        test(24, "Throws `NoSuchElementException`", () -> {
            BasketFlock flock = new BasketFlock();
            fails(NONE, "a new object", flock::targetX);
            flock.addBasket(0, 0, 0);
            fails(NONE, "a basket only", flock::targetX);
            flock.setTarget(0, 0);
            is("a target in the first corner", flock.targetX(), 0);
            flock.undo();
            fails(NONE, "the target undone", flock::targetX);
        });
        test(25, "Returns the y coordinate of the target.", () -> {
            BasketFlock flock = Flocks.at(5, 5);
            flock.setTarget(3, 8);
            is("the target's", flock.targetY(), 8);
            flock.advance(20);
            is("when the leader has arrived", flock.targetY(), 8);
        });
        test(25, "Returns the coordinate.", () -> keepsEach("y", 0, 11, y -> {
            BasketFlock flock = Flocks.at(5, 5);
            flock.setTarget(11, y);
            return flock.targetY();
        }));
        test(25, "Throws `NoSuchElementException`", () -> {
            BasketFlock flock = new BasketFlock();
            fails(NONE, "a new object", flock::targetY);
            flock.addBasket(0, 0, 0);
            fails(NONE, "a basket only", flock::targetY);
            flock.setTarget(0, 0);
            is("a target in the first corner", flock.targetY(), 0);
            flock.undo();
            fails(NONE, "the target undone", flock::targetY);
        });
    }

    private static void stepsToTarget() {
        test(26, "Returns after how many steps the basket that is the leader then will be on the target", () -> {
            keepsEach("the only basket's way", 0, 22, steps -> {
                BasketFlock flock = Flocks.at(0, 0);
                flock.setTarget(Math.min(steps, 11), steps - Math.min(steps, 11));
                return flock.stepsToTarget();
            });
            BasketFlock there = Flocks.at(0, 0, 2, 0);
            there.setTarget(2, 0);
            is("the next leader is there already", there.stepsToTarget(), 4);
            there.advance(3);
            is("it leads after one step more", there.stepsToTarget(), 1);
            // Basket 0 arrives with the last step that it leads, and is the leader again after two more.
            BasketFlock late = Flocks.at(0, 0, 0, 4);
            late.setTurnLength(2);
            late.setKeep(6);
            late.setTarget(2, 0);
            is("it arrives as its turn ends", late.stepsToTarget(), 4);
            late.advance(2);
            is("another one leads when it arrives", late.basketAt(2, 0) * 10 + late.leader(), 1);
            late.advance(2);
            is("in fact", late.basketAt(2, 0) * 10 + late.leader(), 0);
            leavesNoTrace("taking steps on a copy", () -> {
                BasketFlock flock = Flocks.at(0, 0, 3, 3, 9, 9);
                flock.setTarget(11, 0);
                flock.advance(2);
                return flock;
            }, BasketFlock::stepsToTarget);
        });
        test(26, "Returns the number of steps, 0 if the leader is on the target.", () -> {
            BasketFlock flock = Flocks.at(5, 5, 7, 5);
            flock.setTarget(5, 5);
            is("the leader", flock.stepsToTarget(), 0);
            flock.setTarget(7, 5);
            is("another basket only", flock.stepsToTarget(), 4);
        });
    }

    /** Eight baskets that hold one another where they are; the last one, on the target, leads after 63 steps. */
    private static BasketFlock heldFor(int steps) {
        BasketFlock flock = turning(8, 9, 0);
        flock.setTarget(7, 7);
        for (int step = steps; step < 63; step++) {
            flock.advance(1);
        }
        return flock;
    }

    private static void stepsToTargetFails() {
        test(26, "Throws `NoSuchElementException`", () -> {
            fails(NONE, "a new object", () -> new BasketFlock().stepsToTarget());
            fails(NONE, "no target", () -> two(0).stepsToTarget());
            is("after 59 steps", heldFor(59).stepsToTarget(), 59);
            is("after 60 steps", heldFor(60).stepsToTarget(), 60);
            fails(NONE, "after 61 steps", () -> heldFor(61).stepsToTarget());
            BasketFlock flock = Flocks.withClouds(Flocks.at(0, 0), 1, 0, 0, 1);
            flock.setTarget(5, 5);
            fails(NONE, "never, shut in by clouds", flock::stepsToTarget);
            flock.setTarget(1, 0);
            fails(NONE, "never, a cloud on the target", flock::stepsToTarget);
            flock.setTarget(0, 0);
            is("shut in on the target", flock.stepsToTarget(), 0);
            flock.undo();
            flock.undo();
            flock.undo();
            fails(NONE, "the target undone", flock::stepsToTarget);
        });
    }
}
