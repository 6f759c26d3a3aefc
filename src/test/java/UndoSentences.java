/** The sentences of promises 53 to 55. */
final class UndoSentences extends SentenceTests {
    private UndoSentences() {
    }

    static void run() {
        undo();
        undoFails();
        save();
        restore();
        restoreFails();
    }

    private static BasketFlock stepping(int changes) {
        BasketFlock flock = new BasketFlock();
        for (int change = 1; change <= changes; change++) {
            flock.advance(1);
        }
        return flock;
    }

    private static void undo() {
        test(53, "Undoes the latest change that has not been undone.", () -> {
            BasketFlock flock = Flocks.at(0, 0, 5, 5);
            flock.setKeep(5);
            flock.setTurnLength(7);
            flock.undo();
            is("the latest one", flock.turnLength(), 4);
            is("not the one before", flock.keep(), 5);
            flock.undo();
            is("then the one before", flock.keep(), 3);
            flock.addCloud(9, 9);
            flock.undo();
            is("a new one", flock.cloudCount(), 0);
            is("not an older one", flock.basketCount(), 2);
            flock.undo();
            is("then an older one", flock.basketCount(), 1);
            flock.undo();
            is("then the first one", flock.basketCount(), 0);
        });
        test(53, "Returns the number of changes that can still be undone.", () -> {
            keepsEach("of fewer changes than can be undone, left", 0, 7, left -> stepping(left + 1).undo());
            is("of more changes than can be undone", stepping(9).undo(), 7);
            is("of many more changes", stepping(300).undo(), 7);
            BasketFlock flock = stepping(20);
            keepsEach("one after the other, undone", 1, 8, undone -> 8 - flock.undo());
            BasketFlock again = stepping(8);
            again.undo();
            again.advance(1);
            is("a new change instead of an undone one", again.undo(), 7);
            again.advance(1);
            again.advance(1);
            is("new changes that push on", again.undo(), 7);
        });
    }

    private static void undoFails() {
        test(53, "Throws `IllegalStateException`", () -> {
            fails(STATE, "a new object", () -> new BasketFlock().undo());
            BasketFlock once = stepping(1);
            once.undo();
            fails(STATE, "the only change undone", once::undo);
            BasketFlock nine = stepping(9);
            for (int undo = 0; undo < 8; undo++) {
                nine.undo();
            }
            fails(STATE, "the ninth of nine changes", nine::undo);
            is("one change stays", nine.stepCount(), 1);
            BasketFlock saved = new BasketFlock();
            saved.save();
            fails(STATE, "save is no change", saved::undo);
            saved.restore();
            fails(STATE, "restore is no change", saved::undo);
            BasketFlock failed = new BasketFlock();
            fails(ARGUMENT, "a failing call", () -> failed.advance(0));
            fails(STATE, "a failing call is no change", failed::undo);
        });
    }

    private static void save() {
        test(54, "Saves everything that changes can change as the snapshot, replacing an earlier snapshot.", () -> {
            BasketFlock flock = Flocks.withClouds(Flocks.at(5, 5, 7, 5, 5, 9), 0, 0);
            flock.save();
            flock.setTarget(9, 9);
            flock.setKeep(2);
            flock.setTurnLength(3);
            flock.setHandle(0, 2);
            flock.advance(17);
            String later = Flocks.describe(flock);
            flock.save();
            Flocks.run(flock, "add 0,11 0;clear 0,0;goal 1,1;keep 6;turn 9;step 20");
            flock.restore();
            is("the later one", Flocks.describe(flock), later);
        });
        test(54, "Returns the number of baskets.", () -> {
            BasketFlock flock = new BasketFlock();
            keepsEach("baskets", 0, 9, basket -> {
                int saved = flock.save();
                flock.addBasket(basket, basket, 0);
                return saved;
            });
            is("all places taken", flock.save(), 10);
        });
    }

    private static void restore() {
        test(55, "Restores the snapshot, which is kept.", () -> {
            BasketFlock flock = Flocks.at(5, 5);
            flock.save();
            String saved = Flocks.describe(flock);
            for (int time = 1; time <= 3; time++) {
                flock.addBasket(time, 0, 1);
                flock.advance(time);
                flock.restore();
                is("time " + time, Flocks.describe(flock), saved);
            }
            flock.jump(0, 9, 9);
            flock.undo();
            flock.restore();
            is("changes and undo leave it as it is", Flocks.describe(flock), saved);
            BasketFlock empty = new BasketFlock();
            empty.save();
            empty.addBasket(5, 5, 0);
            empty.setTarget(7, 7);
            empty.restore();
            fails(NONE, "the snapshot of a new object has no target", empty::targetX);
            fails(NONE, "the snapshot of a new object has no leader", empty::leader);
        });
        test(55, "After the call no change can be undone.", () -> {
            BasketFlock flock = stepping(3);
            flock.save();
            flock.restore();
            fails(STATE, "changes before save", flock::undo);
            flock.advance(1);
            flock.restore();
            fails(STATE, "a change behind save", flock::undo);
            flock.advance(1);
            flock.advance(1);
            is("changes behind restore", flock.undo(), 1);
            flock.undo();
            fails(STATE, "none but these", flock::undo);
            is("back to the snapshot", flock.stepCount(), 3);
            BasketFlock many = stepping(9);
            many.save();
            many.restore();
            for (int change = 0; change < 9; change++) {
                many.advance(1);
            }
            is("the latest eight again", many.undo(), 7);
        });
        test(55, "Returns the number of baskets.", () -> {
            BasketFlock flock = new BasketFlock();
            flock.save();
            flock.addBasket(5, 5, 0);
            is("none again", flock.restore(), 0);
            keepsEach("baskets", 1, 10, basket -> {
                flock.addBasket(basket, basket, 0);
                flock.save();
                return flock.restore();
            });
        });
    }

    private static void restoreFails() {
        test(55, "Throws `IllegalStateException`", () -> {
            BasketFlock flock = stepping(2);
            fails(STATE, "no snapshot", flock::restore);
            is("the changes can still be undone", flock.undo(), 1);
            flock.save();
            flock.undo();
            is("undo takes no snapshot away", flock.restore(), 0);
            is("the snapshot", flock.stepCount(), 1);
        });
    }
}
