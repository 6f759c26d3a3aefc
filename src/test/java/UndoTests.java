/** Promises 53 to 55. */
final class UndoTests {
    private UndoTests() {
    }

    static void run() {
        eachChange();
        atMostEight();
        noChange();
        mixedUndoing();
        firstBasket();
        snapshot();
        snapshotOfAll();
    }

    private static void eachChange() {
        BasketFlock flock = Flocks.withClouds(Flocks.at(0, 0, 5, 0, 9, 0), 3, 3);
        flock.setTarget(8, 8);
        flock.advance(3);
        String before = Flocks.describe(flock);
        Runnable[] changes = {
            () -> flock.addBasket(11, 11, 2),
            () -> flock.jump(0, 11, 11),
            () -> flock.jump(0, flock.xOf(0), flock.yOf(0)),
            () -> flock.setHandle(1, 2),
            () -> flock.setHandle(1, 1),
            () -> flock.addCloud(9, 9),
            () -> flock.removeCloud(3, 3),
            () -> flock.setTurnLength(7),
            () -> flock.setTurnLength(4),
            () -> flock.setTarget(1, 2),
            () -> flock.setTarget(8, 8),
            () -> flock.setKeep(2),
            () -> flock.setKeep(3),
            () -> flock.advance(20),
            () -> Flocks.run(flock, "add 11,11 2;keep 2;step 20"),
            () -> Flocks.run(flock, "keep 3"),
        };
        for (int i = 0; i < changes.length; i++) {
            changes[i].run();
            Check.is(53, "undo of change " + i, flock.undo(), 6);
            Check.is(53, "the state after undo of change " + i, Flocks.describe(flock), before);
        }
    }

    private static void atMostEight() {
        BasketFlock flock = new BasketFlock();
        for (int keep = 0; keep < 20; keep++) {
            flock.advance(keep + 1);
        }
        for (int left = 7; left >= 0; left--) {
            Check.is(53, "undo", flock.undo(), left);
        }
        Check.is(53, "twelve changes are left", flock.stepCount(), 78);
        Check.fails(53, "a ninth undo", IllegalStateException.class, flock::undo);
        Check.is(53, "nothing changed", flock.stepCount(), 78);
        flock.advance(1);
        Check.is(53, "undo after a new change", flock.undo(), 0);
    }

    private static void noChange() {
        BasketFlock flock = Flocks.at(5, 5);
        flock.save();
        flock.describeRow(5);
        flock.isConsistent();
        flock.append('a');
        Check.fails(45, "run of a wrong text", IllegalArgumentException.class, flock::run);
        Check.fails(2, "a refused basket", UnsupportedOperationException.class, () -> flock.addBasket(5, 5, 0));
        Check.fails(3, "a wrong jump", IndexOutOfBoundsException.class, () -> flock.jump(1, 5, 5));
        Check.fails(27, "a wrong keep", IllegalArgumentException.class, () -> flock.setKeep(1));
        Check.fails(15, "a wrong cloud", java.util.NoSuchElementException.class, () -> flock.removeCloud(1, 1));
        Check.is(53, "the only change", flock.undo(), 0);
        Check.is(53, "no basket", flock.basketCount(), 0);
        Check.fails(53, "no more", IllegalStateException.class, flock::undo);
    }

    private static void mixedUndoing() {
        BasketFlock flock = new BasketFlock();
        for (int i = 0; i < 10; i++) {
            flock.advance(1);
        }
        flock.undo();
        flock.undo();
        Check.is(53, "undo", flock.undo(), 5);
        flock.advance(10);
        flock.advance(10);
        Check.is(53, "undo of a new change", flock.undo(), 6);
        Check.is(53, "undo of a new change", flock.undo(), 5);
        Check.is(53, "stepCount", flock.stepCount(), 7);
        Check.is(53, "undo of an older change", flock.undo(), 4);
        Check.is(53, "stepCount", flock.stepCount(), 6);
    }

    private static void firstBasket() {
        BasketFlock flock = Flocks.at(5, 5);
        flock.advance(3);
        flock.undo();
        flock.undo();
        flock.addBasket(1, 1, 1);
        flock.addBasket(3, 3, 1);
        flock.advance(3);
        Check.is(53, "the steps led are undone too", flock.leader(), 0);
        flock.advance(1);
        Check.is(53, "the next leader", flock.leader(), 1);
    }

    private static void snapshot() {
        BasketFlock flock = new BasketFlock();
        Check.fails(55, "restore without a snapshot", IllegalStateException.class, flock::restore);
        Check.is(54, "save of an empty sky", flock.save(), 0);
        flock.addBasket(0, 0, 0);
        Check.is(54, "save of one", flock.save(), 1);
        flock.addBasket(5, 5, 0);
        Check.is(53, "save is no change", flock.undo(), 1);
        flock.addBasket(7, 7, 0);
        flock.addBasket(9, 9, 0);
        Check.is(55, "restore", flock.restore(), 1);
        Check.is(55, "the cells", Flocks.cells(flock), "0,0");
        Check.fails(55, "nothing to undo after restore", IllegalStateException.class, flock::undo);
        flock.addBasket(7, 7, 0);
        flock.advance(20);
        Check.is(55, "restore again", flock.restore(), 1);
        Check.is(55, "the cells again", Flocks.cells(flock), "0,0");
        flock.jump(0, 3, 3);
        Check.is(53, "undo after restore", flock.undo(), 0);
        Check.is(54, "save replaces", flock.save(), 1);
        Check.is(53, "save leaves the changes", flock.basketCount(), 1);
        flock.addBasket(9, 9, 0);
        Check.is(54, "save of two", flock.save(), 2);
        Check.is(53, "undo behind the snapshot", flock.undo(), 0);
        Check.is(55, "the snapshot is not undone", flock.restore(), 2);
    }

    private static void snapshotOfAll() {
        BasketFlock flock = Flocks.withClouds(Flocks.at(0, 0, 5, 0, 9, 0), 3, 3, 4, 4);
        flock.setTarget(8, 8);
        flock.setTurnLength(5);
        flock.setKeep(2);
        flock.advance(8);
        String saved = Flocks.describe(flock);
        flock.save();
        flock.addBasket(11, 11, 2);
        flock.jump(1, 0, 11);
        flock.setHandle(0, 2);
        flock.addCloud(7, 2);
        flock.removeCloud(3, 3);
        flock.setTurnLength(2);
        flock.setTarget(1, 2);
        flock.setKeep(6);
        flock.advance(20);
        Check.is(55, "restore", flock.restore(), 3);
        Check.is(55, "everything is restored", Flocks.describe(flock), saved);
        flock.advance(7);
        flock.restore();
        Check.is(55, "everything is restored again", Flocks.describe(flock), saved);
    }
}
