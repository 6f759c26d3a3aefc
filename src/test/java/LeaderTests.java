import java.util.NoSuchElementException;

/** Promises 18 to 26. */
final class LeaderTests {
    private LeaderTests() {
    }

    static void run() {
        turnLength();
        turns();
        leaderAhead();
        target();
        stepsToTarget();
        stepsToTargetTooFar();
    }

    private static void turnLength() {
        BasketFlock flock = Flocks.at(5, 5, 7, 5);
        Check.is(19, "turnLength at first", flock.turnLength(), 4);
        Check.is(18, "setTurnLength to the least", flock.setTurnLength(2), 4);
        Check.is(19, "turnLength", flock.turnLength(), 2);
        Check.is(18, "setTurnLength to the greatest", flock.setTurnLength(9), 2);
        Check.is(19, "turnLength", flock.turnLength(), 9);
        for (int steps : new int[] {1, 10, 0, -1, Integer.MIN_VALUE, Integer.MAX_VALUE}) {
            Check.fails(18, "setTurnLength " + steps, IllegalArgumentException.class,
                    () -> flock.setTurnLength(steps));
        }
        Check.is(19, "turnLength after the failures", flock.turnLength(), 9);
        flock.advance(8);
        Check.is(18, "leader after 8 of 9 steps", flock.leader(), 0);
        flock.setTurnLength(9);
        flock.advance(8);
        Check.is(18, "the steps so far are forgotten", flock.leader(), 0);
        flock.advance(1);
        Check.is(18, "leader after 9 steps", flock.leader(), 1);
    }

    private static void turns() {
        BasketFlock flock = new BasketFlock();
        Check.fails(20, "leader without baskets", NoSuchElementException.class, flock::leader);
        flock.advance(3);
        flock.addBasket(5, 5, 0);
        Check.is(20, "the first basket leads", flock.leader(), 0);
        flock.addBasket(7, 5, 0);
        flock.addBasket(9, 5, 0);
        Check.is(20, "the first basket still leads", flock.leader(), 0);
        flock.advance(3);
        Check.is(20, "steps without baskets do not count", flock.leader(), 0);
        flock.advance(1);
        Check.is(20, "leader after 4 steps", flock.leader(), 1);
        flock.advance(4);
        Check.is(20, "leader after 8 steps", flock.leader(), 2);
        flock.advance(4);
        Check.is(20, "basket 0 follows the last one", flock.leader(), 0);
        BasketFlock single = Flocks.at(5, 5);
        single.advance(13);
        Check.is(20, "a single basket leads on", single.leader(), 0);
        single.addBasket(7, 5, 0);
        single.advance(2);
        Check.is(20, "13 and 2 steps", single.leader(), 0);
        single.advance(1);
        Check.is(20, "the steps that it led alone count", single.leader(), 1);
    }

    private static void leaderAhead() {
        BasketFlock flock = Flocks.at(5, 5, 7, 5, 9, 5);
        flock.advance(3);
        int[] due = {0, 1, 1, 1, 1, 2, 2, 2, 2, 0};
        for (int steps = 0; steps < due.length; steps++) {
            Check.is(21, "leaderAfter " + steps, flock.leaderAfter(steps), due[steps]);
            Check.is(22, "leaderAfterByCounting " + steps, flock.leaderAfterByCounting(steps), due[steps]);
        }
        Check.is(21, "leaderAfter 99", flock.leaderAfter(99), 1);
        Check.is(22, "leaderAfterByCounting 99", flock.leaderAfterByCounting(99), 1);
        Check.is(21, "leaderAfter of a single basket", Flocks.at(5, 5).leaderAfter(7), 0);
        Check.is(22, "leaderAfterByCounting of a single basket", Flocks.at(5, 5).leaderAfterByCounting(7), 0);
        BasketFlock none = new BasketFlock();
        for (int steps : new int[] {-1, 100, Integer.MIN_VALUE, Integer.MAX_VALUE}) {
            Check.fails(21, "leaderAfter " + steps, IllegalArgumentException.class, () -> flock.leaderAfter(steps));
            Check.fails(22, "leaderAfterByCounting " + steps, IllegalArgumentException.class,
                    () -> flock.leaderAfterByCounting(steps));
            Check.fails(21, "leaderAfter without baskets and " + steps, IllegalArgumentException.class,
                    () -> none.leaderAfter(steps));
            Check.fails(22, "leaderAfterByCounting without baskets and " + steps, IllegalArgumentException.class,
                    () -> none.leaderAfterByCounting(steps));
        }
        Check.fails(21, "leaderAfter without baskets", NoSuchElementException.class, () -> none.leaderAfter(0));
        Check.fails(22, "leaderAfterByCounting without baskets", NoSuchElementException.class,
                () -> none.leaderAfterByCounting(99));
    }

    private static void target() {
        BasketFlock flock = new BasketFlock();
        Check.fails(23, "setTarget without baskets", NoSuchElementException.class, () -> flock.setTarget(0, 0));
        Check.fails(23, "setTarget without baskets out of range", IllegalArgumentException.class,
                () -> flock.setTarget(12, 0));
        flock.addBasket(5, 5, 0);
        Check.fails(24, "targetX without a target", NoSuchElementException.class, flock::targetX);
        Check.fails(25, "targetY without a target", NoSuchElementException.class, flock::targetY);
        Check.is(23, "setTarget in the first corner", flock.setTarget(0, 0), 10);
        Check.is(24, "targetX", flock.targetX(), 0);
        Check.is(25, "targetY", flock.targetY(), 0);
        Check.is(23, "setTarget again", flock.setTarget(11, 3), 8);
        Check.is(24, "targetX", flock.targetX(), 11);
        Check.is(25, "targetY", flock.targetY(), 3);
        for (int far : new int[] {-1, 12, Integer.MIN_VALUE, Integer.MAX_VALUE}) {
            Check.fails(23, "setTarget x " + far, IllegalArgumentException.class, () -> flock.setTarget(far, 0));
            Check.fails(23, "setTarget y " + far, IllegalArgumentException.class, () -> flock.setTarget(0, far));
        }
        Check.is(24, "targetX after the failures", flock.targetX(), 11);
        flock.addBasket(0, 0, 0);
        flock.advance(4);
        Check.is(23, "the distance of the later leader", flock.setTarget(0, 0), flock.xOf(1) + flock.yOf(1));
        flock.undo();
        flock.undo();
        flock.undo();
        flock.undo();
        Check.is(24, "targetX after undo", flock.targetX(), 0);
    }

    private static void stepsToTarget() {
        BasketFlock flock = Flocks.at(5, 5);
        Check.fails(26, "stepsToTarget without a target", NoSuchElementException.class, flock::stepsToTarget);
        flock.setTarget(5, 5);
        Check.is(26, "stepsToTarget on the target", flock.stepsToTarget(), 0);
        flock.setTarget(8, 3);
        Check.is(26, "stepsToTarget", flock.stepsToTarget(), 5);
        Check.is(26, "nothing moved", Flocks.cells(flock), "5,5");
        Check.is(26, "no step passed", flock.stepCount(), 0);
        Check.is(26, "no shape is remembered", flock.shapeCount(), 0);
        Check.is(26, "no change was made", flock.undo(), 2);

        // Basket 1 stands on the target already and leads after 4 steps.
        BasketFlock late = Flocks.at(0, 0, 3, 3);
        late.setKeep(6);
        late.setTarget(3, 3);
        Check.is(26, "a later leader is on the target", late.stepsToTarget(), 4);
        late.advance(4);
        Check.is(26, "the later leader leads", late.stepsToTarget(), 0);
    }

    private static void stepsToTargetTooFar() {
        // The target is a cloud, and no leader can ever be on it.
        BasketFlock flock = Flocks.withClouds(Flocks.at(0, 0), 3, 3);
        flock.setTarget(3, 3);
        Check.fails(26, "stepsToTarget in a cloud", NoSuchElementException.class, flock::stepsToTarget);
        flock.removeCloud(3, 3);
        Check.is(26, "stepsToTarget without the cloud", flock.stepsToTarget(), 6);

        // Nobody moves, for the leaders are walled in; the last basket, on the target, leads after 7 * 9 steps.
        BasketFlock eight = waiting(8);
        Check.fails(26, "stepsToTarget 63", NoSuchElementException.class, eight::stepsToTarget);
        eight.advance(2);
        Check.fails(26, "stepsToTarget 61", NoSuchElementException.class, eight::stepsToTarget);
        eight.advance(1);
        Check.is(26, "stepsToTarget 60", eight.stepsToTarget(), 60);
    }

    /** The baskets stand aslant of one another along a diagonal, each one's ways towards the last one touching. */
    private static BasketFlock waiting(int baskets) {
        BasketFlock flock = new BasketFlock();
        for (int basket = 0; basket < baskets; basket++) {
            flock.addBasket(basket, basket, 0);
        }
        flock.setTurnLength(9);
        flock.setTarget(baskets - 1, baskets - 1);
        return flock;
    }
}
