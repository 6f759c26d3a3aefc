/** Promises 27 to 33, and what the terms say of steps. */
final class StepTests {
    private StepTests() {
    }

    static void run() {
        keep();
        advance();
        leaderWays();
        leaderDetours();
        followers();
        followersInTurn();
        followersBlocked();
        counts();
        withoutBaskets();
    }

    private static void keep() {
        BasketFlock flock = new BasketFlock();
        Check.is(28, "keep at first", flock.keep(), 3);
        Check.is(27, "setKeep to the least", flock.setKeep(2), 3);
        Check.is(28, "keep", flock.keep(), 2);
        Check.is(27, "setKeep to the greatest", flock.setKeep(6), 2);
        for (int keep : new int[] {1, 7, 0, -1, Integer.MIN_VALUE, Integer.MAX_VALUE}) {
            Check.fails(27, "setKeep " + keep, IllegalArgumentException.class, () -> flock.setKeep(keep));
        }
        Check.is(28, "keep after the failures", flock.keep(), 6);
        flock.undo();
        Check.is(28, "keep after undo", flock.keep(), 2);
    }

    private static void advance() {
        BasketFlock flock = Flocks.at(0, 0);
        flock.setTarget(11, 11);
        for (int steps : new int[] {0, 21, -1, Integer.MIN_VALUE, Integer.MAX_VALUE}) {
            Check.fails(29, "advance " + steps, IllegalArgumentException.class, () -> flock.advance(steps));
        }
        Check.is(30, "stepCount after the failures", flock.stepCount(), 0);
        Check.is(29, "advance 1", flock.advance(1), 1);
        Check.is(29, "advance 20", flock.advance(20), 20);
        Check.is(29, "advance to the target", flock.advance(20), 1);
        Check.is(29, "advance on the target", flock.advance(2), 0);
        Check.is(30, "stepCount", flock.stepCount(), 43);
        Check.is(33, "on the target nobody waits", flock.waitTotal(), 0);
        flock.undo();
        Check.is(30, "stepCount after undo", flock.stepCount(), 41);
    }

    private static void leaderWays() {
        step("x first where the differences are the same", "1,0", Flocks.at(0, 0), 3, 3);
        step("x first where it differs more", "1,0", Flocks.at(0, 0), 3, 2);
        step("y first where it differs more", "0,1", Flocks.at(0, 0), 2, 3);
        step("towards less x", "8,9", Flocks.at(9, 9), 5, 8);
        step("towards less y", "9,8", Flocks.at(9, 9), 10, 5);
        step("no move on the target", "4,4", Flocks.at(4, 4), 4, 4);
        step("towards a cloud beside it", "4,4", Flocks.withClouds(Flocks.at(4, 4), 5, 4), 5, 4);
    }

    private static void step(String what, String due, BasketFlock flock, int x, int y) {
        String before = Flocks.cells(flock);
        flock.setTarget(x, y);
        int moves = flock.advance(1);
        Check.is(29, what, Flocks.cells(flock), due);
        Check.is(29, "the number of moves, " + what, moves, due.equals(before) ? 0 : 1);
        Check.is(31, "movesOf the leader, " + what, flock.movesOf(0), moves);
        Check.is(32, "moveTotal, " + what, flock.moveTotal(), (long) moves);
    }

    private static void leaderDetours() {
        step("the other axis past a cloud", "0,1", Flocks.withClouds(Flocks.at(0, 0), 1, 0), 3, 2);
        step("the other axis past a cloud, y first", "1,0", Flocks.withClouds(Flocks.at(0, 0), 0, 1), 2, 3);
        step("no detour where y does not differ", "0,0", Flocks.withClouds(Flocks.at(0, 0), 1, 0), 3, 0);
        step("no detour where x does not differ", "0,0", Flocks.withClouds(Flocks.at(0, 0), 0, 1), 0, 3);
        step("no way at all", "0,0", Flocks.withClouds(Flocks.at(0, 0), 1, 0, 0, 1), 3, 3);
        step("the other axis past a basket", "4,5 6,4", Flocks.at(4, 4, 6, 4), 9, 9);
        BasketFlock waiting = Flocks.withClouds(Flocks.at(0, 0), 1, 0);
        waiting.setTarget(3, 0);
        Check.is(29, "no move before a cloud", waiting.advance(5), 0);
        Check.is(33, "five times waited", waiting.waitTotal(), 5);
    }

    private static void followers() {
        near("greater y", 5, 5, 5, 1, "5,5 5,2");
        near("greater x", 5, 5, 1, 5, "5,5 2,5");
        near("less y", 5, 5, 5, 9, "5,5 5,8");
        near("less x", 5, 5, 9, 5, "5,5 8,5");
        near("greater y before greater x", 5, 5, 3, 3, "5,5 3,4");
        near("greater x before less y", 5, 5, 3, 7, "5,5 4,7");
        near("less y before less x", 5, 5, 7, 7, "5,5 7,6");
        near("greater y before less x", 5, 5, 7, 3, "5,5 7,4");
        near("at the keep it stays", 5, 5, 5, 8, "5,5 5,8");
        BasketFlock wide = Flocks.at(5, 5, 5, 10, 5, 0);
        wide.setKeep(4);
        Check.is(29, "two moves with keep 4", wide.advance(3), 2);
        Check.is(29, "the cells with keep 4", Flocks.cells(wide), "5,5 5,9 5,1");
        Check.is(33, "at the keep nobody waits", wide.waitTotal(), 0);
    }

    private static void near(String what, int x, int y, int otherX, int otherY, String due) {
        near(what, Flocks.at(x, y, otherX, otherY), due);
    }

    private static void near(String what, BasketFlock flock, String due) {
        flock.advance(1);
        Check.is(29, what, Flocks.cells(flock), due);
    }

    private static void followersInTurn() {
        // Basket 1 makes way for basket 2, for it is visited first.
        BasketFlock flock = Flocks.at(0, 0, 6, 0, 8, 0);
        Check.is(29, "both move", flock.advance(1), 2);
        Check.is(29, "both have moved", Flocks.cells(flock), "0,0 5,0 7,0");
        // The other way round basket 1 is visited while basket 2 is in its way.
        BasketFlock reverse = Flocks.at(0, 0, 8, 0, 6, 0);
        Check.is(29, "one moves", reverse.advance(1), 1);
        Check.is(29, "one has moved", Flocks.cells(reverse), "0,0 8,0 5,0");
        Check.is(33, "one has waited", reverse.waitTotal(), 1);
        // The distance is that from the leader after its own move.
        BasketFlock drawn = Flocks.at(3, 0, 0, 0);
        drawn.setTarget(9, 0);
        Check.is(29, "the leader draws the other one", drawn.advance(1), 2);
        Check.is(29, "the leader drew the other one", Flocks.cells(drawn), "4,0 1,0");
        // The later leader goes first, and basket 0 is visited as any other.
        drawn.advance(3);
        drawn.setTarget(0, 0);
        drawn.advance(2);
        Check.is(20, "basket 1 leads", drawn.leader(), 1);
        Check.is(29, "basket 1 leads back", Flocks.cells(drawn), "5,0 2,0");
    }

    private static void followersBlocked() {
        BasketFlock clouded = Flocks.withClouds(Flocks.at(5, 5, 3, 3), 3, 4);
        clouded.advance(1);
        Check.is(29, "past a cloud", Flocks.cells(clouded), "5,5 4,3");
        BasketFlock waiting = Flocks.withClouds(Flocks.at(5, 5, 3, 3), 3, 4, 4, 3);
        Check.is(29, "nowhere to go", waiting.advance(2), 0);
        Check.is(33, "waited twice", waiting.waitTotal(), 2);
        Check.is(29, "nearer cells only", Flocks.cells(waiting), "5,5 3,3");
        near("no way from above but past the cloud", Flocks.withClouds(Flocks.at(5, 5, 5, 9), 5, 8), "5,5 5,9");
        near("no way from below but past the cloud", Flocks.withClouds(Flocks.at(5, 5, 5, 1), 5, 2), "5,5 5,1");
        near("no way from the right but past the cloud", Flocks.withClouds(Flocks.at(5, 5, 9, 5), 8, 5), "5,5 9,5");
        near("no way from the left but past the cloud", Flocks.withClouds(Flocks.at(5, 5, 1, 5), 2, 5), "5,5 1,5");
    }

    private static void counts() {
        BasketFlock flock = Flocks.at(5, 5, 5, 0, 0, 5);
        Check.is(31, "movesOf at first", flock.movesOf(1), 0);
        flock.advance(1);
        flock.advance(1);
        flock.advance(1);
        Check.is(31, "movesOf the leader", flock.movesOf(0), 0);
        Check.is(31, "movesOf 1", flock.movesOf(1), 2);
        Check.is(31, "movesOf 2", flock.movesOf(2), 2);
        Check.is(32, "moveTotal", flock.moveTotal(), 4L);
        flock.jump(1, 11, 11);
        Check.is(32, "moveTotal after a jump", flock.moveTotal(), 4L);
        flock.undo();
        flock.undo();
        flock.undo();
        Check.is(31, "movesOf after undo", flock.movesOf(1), 1);
        Check.is(32, "moveTotal after undo", flock.moveTotal(), 2L);
        for (int basket : new int[] {-1, 3, 10, Integer.MIN_VALUE, Integer.MAX_VALUE}) {
            Check.fails(31, "movesOf " + basket, IndexOutOfBoundsException.class, () -> flock.movesOf(basket));
        }
    }

    private static void withoutBaskets() {
        BasketFlock flock = new BasketFlock();
        Check.is(29, "advance without baskets", flock.advance(20), 0);
        Check.is(30, "stepCount without baskets", flock.stepCount(), 20);
        Check.is(33, "waitTotal without baskets", flock.waitTotal(), 0);
        Check.is(40, "no shape without baskets", flock.shapeCount(), 0);
        Check.is(32, "moveTotal without baskets", flock.moveTotal(), 0L);
        Check.is(53, "it is a change", flock.undo(), 0);
        Check.is(30, "stepCount after undo", flock.stepCount(), 0);
    }
}
