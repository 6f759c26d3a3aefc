/** The sentences of promises 27 to 33. */
final class StepSentences extends SentenceTests {
    private StepSentences() {
    }

    static void run() {
        setKeep();
        keep();
        advance();
        advanceFails();
        stepCount();
        movesOf();
        moveTotal();
        waitTotal();
    }

    private static void setKeep() {
        test(27, "Sets the keep.", () -> {
            for (int keep = 2; keep <= 6; keep++) {
                BasketFlock flock = Flocks.at(0, 0, 11, 0);
                flock.setKeep(keep);
                flock.advance(20);
                is("followed as near as keep " + keep, flock.distance(0, 1), keep);
                is("linked with keep " + keep, flock.formationCount(), 1);
            }
        });
        test(27, "`distance`: the new keep, 2 to 6", () -> keepsEach("distance", 2, 6, distance -> {
            BasketFlock flock = new BasketFlock();
            flock.setKeep(distance);
            return flock.keep();
        }));
        test(27, "Returns the previous keep.", () -> {
            BasketFlock flock = new BasketFlock();
            is("the initial one", flock.setKeep(6), 3);
            is("the greatest one", flock.setKeep(2), 6);
            is("the least one", flock.setKeep(2), 2);
            is("the same one", flock.setKeep(5), 2);
        });
        test(27, "Throws `IllegalArgumentException`", () -> {
            failsOutside(ARGUMENT, "distance", 2, 6, distance -> new BasketFlock().setKeep(distance));
            fails(ARGUMENT, "distance 0", () -> new BasketFlock().setKeep(0));
        });
    }

    private static void keep() {
        test(28, "Returns the keep.", () -> {
            BasketFlock flock = new BasketFlock();
            is("at first", flock.keep(), 3);
            keepsEach("keep", 2, 6, keep -> {
                flock.setKeep(keep);
                return flock.keep();
            });
            fails(ARGUMENT, "a wrong keep", () -> flock.setKeep(7));
            is("after a wrong keep", flock.keep(), 6);
            flock.undo();
            is("after undo", flock.keep(), 5);
        });
    }

    private static void advance() {
        test(29, "Lets steps pass.", () -> {
            BasketFlock flock = Flocks.at(0, 0);
            flock.setTarget(11, 11);
            flock.advance(1);
            is("one step", Flocks.cells(flock), "1,0");
            flock.advance(20);
            is("twenty steps", Flocks.cells(flock), "11,10");
            flock.advance(2);
            is("no step farther than the target", Flocks.cells(flock), "11,11");
        });
        test(29, "`steps`: the number of steps, 1 to 20", () -> {
            keepsEach("steps", 1, 20, steps -> {
                BasketFlock flock = new BasketFlock();
                flock.advance(steps);
                return flock.stepCount();
            });
            keepsEach("steps with a basket", 1, 20, steps -> {
                BasketFlock flock = Flocks.at(0, 0);
                flock.setTarget(11, 11);
                return flock.advance(steps);
            });
        });
        test(29, "Returns the number of moves in these steps.", () -> {
            is("without baskets", new BasketFlock().advance(20), 0);
            is("without a target", Flocks.at(5, 5, 7, 5).advance(20), 0);
            BasketFlock flock = Flocks.at(0, 0, 0, 3);
            flock.setTarget(2, 0);
            is("the leader and the other one", flock.advance(1), 2);
            is("in these steps only", flock.advance(1), 2);
            is("on the target", flock.advance(1), 0);
            flock.jump(1, 11, 11);
            is("a jump does not count", flock.advance(1), 1);
            BasketFlock waiting = Flocks.withClouds(Flocks.at(0, 0), 1, 0);
            waiting.setTarget(2, 0);
            is("waiting does not count", waiting.advance(20), 0);
            BasketFlock all = Flocks.at(0, 0, 2, 0, 4, 0, 6, 0, 8, 0, 10, 0, 0, 11, 2, 11, 4, 11, 6, 11);
            all.jump(1, 1, 1);
            is("of eight farther ones", all.advance(1), 8);
        });
    }

    private static void advanceFails() {
        test(29, "Throws `IllegalArgumentException`", () -> {
            failsOutside(ARGUMENT, "steps", 1, 20, steps -> Flocks.at(5, 5).advance(steps));
            failsOutside(ARGUMENT, "no baskets, steps", 1, 20, steps -> new BasketFlock().advance(steps));
            fails(ARGUMENT, "steps -1", () -> Flocks.at(5, 5).advance(-1));
        });
    }

    private static void stepCount() {
        test(30, "Returns the number of steps that have passed.", () -> {
            BasketFlock flock = new BasketFlock();
            is("at first", flock.stepCount(), 0);
            flock.advance(3);
            is("without baskets", flock.stepCount(), 3);
            flock.addBasket(0, 0, 0);
            is("as the first basket is added", flock.stepCount(), 3);
            flock.setTarget(5, 5);
            flock.stepsToTarget();
            is("steps on a copy do not count", flock.stepCount(), 3);
            fails(ARGUMENT, "too many steps", () -> flock.advance(21));
            is("too many steps do not pass", flock.stepCount(), 3);
            Flocks.run(flock, "step 4;step 20");
            is("the steps of commands", flock.stepCount(), 27);
            flock.undo();
            is("after undo", flock.stepCount(), 3);
        });
        test(30, "Returns the number of steps.", () -> {
            BasketFlock flock = Flocks.at(0, 0);
            for (int call = 0; call < 510; call++) {
                flock.advance(20);
            }
            is("in as many calls as there can be", flock.stepCount(), 10200);
        });
    }

    private static void movesOf() {
        test(31, "Returns the number of moves of a basket so far.", () -> {
            BasketFlock flock = Flocks.at(0, 0, 0, 3);
            is("at first", flock.movesOf(0), 0);
            flock.setTarget(4, 0);
            flock.advance(2);
            flock.advance(1);
            is("the leader's", flock.movesOf(0), 3);
            is("the other one's", flock.movesOf(1), 3);
            flock.advance(3);
            is("on the target, and as the other one", flock.movesOf(0), 4);
            flock.undo();
            is("after undo", flock.movesOf(0), 3);
        });
        test(31, "`basket`: the basket", () -> {
            BasketFlock flock = Flocks.full();
            flock.jump(9, 11, 11);
            flock.setTarget(0, 1);
            flock.advance(1);
            is("the first one", flock.movesOf(0), 1);
            is("the last one", flock.movesOf(9), 1);
            is("a shut in one", flock.movesOf(6), 0);
        });
        test(31, "Returns the number of moves.", () -> {
            BasketFlock flock = Flocks.at(0, 0);
            flock.setTarget(11, 11);
            flock.advance(20);
            is("in the first call", flock.movesOf(0), 20);
            flock.advance(20);
            is("it arrives", flock.movesOf(0), 22);
            flock.jump(0, 0, 0);
            is("a jump is no move", flock.movesOf(0), 22);
            flock.advance(1);
            is("it goes again", flock.movesOf(0), 23);
        });
        test(31, "Throws `IndexOutOfBoundsException`", () -> {
            failsOutside(INDEX, "one basket, basket", 0, 0, basket -> Flocks.at(0, 0).movesOf(basket));
            failsOutside(INDEX, "ten baskets, basket", 0, 9, basket -> Flocks.full().movesOf(basket));
            fails(INDEX, "no baskets, basket 0", () -> new BasketFlock().movesOf(0));
        });
    }

    private static void moveTotal() {
        test(32, "Returns the number of moves of all baskets so far.", () -> {
            is("without baskets", new BasketFlock().moveTotal(), 0L);
            BasketFlock flock = Flocks.at(0, 0, 0, 3, 11, 11);
            is("at first", flock.moveTotal(), 0L);
            flock.setTarget(2, 0);
            flock.advance(1);
            is("of all three", flock.moveTotal(), 3L);
            flock.advance(2);
            is("of earlier calls too", flock.moveTotal(), 7L);
            flock.undo();
            is("after undo", flock.moveTotal(), 3L);
        });
        test(32, "Returns the number of moves.", () -> {
            BasketFlock flock = Flocks.full();
            flock.setTarget(11, 11);
            long moved = flock.advance(20) + flock.advance(20) + flock.advance(20);
            long moves = 0;
            for (int basket = 0; basket < 10; basket++) {
                moves += flock.movesOf(basket);
            }
            is("as many as each had", flock.moveTotal(), moves);
            is("as many as were answered", flock.moveTotal(), moved);
            is("more than none", moves > 20, true);
        });
    }

    private static void waitTotal() {
        test(33, "Returns how often a basket has waited so far.", () -> {
            BasketFlock leader = Flocks.withClouds(Flocks.at(0, 0), 1, 0);
            leader.setTarget(3, 0);
            leader.advance(1);
            is("the leader, once", leader.waitTotal(), 1);
            leader.advance(20);
            is("the leader, in every step", leader.waitTotal(), 21);
            BasketFlock other = Flocks.withClouds(Flocks.at(0, 0, 11, 0), 10, 0);
            other.advance(4);
            is("another one, in every step", other.waitTotal(), 4);
            BasketFlock both = Flocks.withClouds(Flocks.at(0, 0, 11, 0, 0, 11), 1, 0, 10, 0, 0, 10);
            both.setTarget(5, 0);
            both.advance(1);
            is("three in one step", both.waitTotal(), 3);
            both.undo();
            is("after undo", both.waitTotal(), 0);
        });
        test(33, "Returns the number of times.", () -> {
            is("at first", new BasketFlock().waitTotal(), 0);
            BasketFlock none = new BasketFlock();
            none.advance(20);
            is("without baskets nobody waits", none.waitTotal(), 0);
            BasketFlock still = Flocks.at(5, 5, 8, 5);
            still.advance(3);
            is("without a target, at the keep, nobody waits", still.waitTotal(), 0);
            still.setTarget(5, 5);
            still.advance(1);
            is("on the target nobody waits", still.waitTotal(), 0);
            BasketFlock moving = Flocks.at(5, 5, 9, 5);
            moving.setTarget(4, 5);
            moving.advance(1);
            is("both move", Flocks.cells(moving), "4,5 8,5");
            is("who moves does not wait", moving.waitTotal(), 0);
            BasketFlock detour = Flocks.withClouds(Flocks.at(0, 0), 1, 0);
            detour.setTarget(3, 3);
            detour.advance(1);
            is("who goes another way does not wait", detour.waitTotal(), 0);
        });
    }
}
