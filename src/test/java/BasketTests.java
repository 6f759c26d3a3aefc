import java.util.NoSuchElementException;

/** Promises 1 to 13. */
final class BasketTests {
    private static final int[] FAR = {-1, 12, Integer.MIN_VALUE, Integer.MAX_VALUE};

    private BasketTests() {
    }

    static void run() {
        newObject();
        addBasket();
        addBasketExceptions();
        jump();
        jumpExceptions();
        setHandle();
        readings();
        basketAt();
        distance();
        nearestTo();
        refusals();
    }

    private static void newObject() {
        BasketFlock flock = new BasketFlock();
        Check.is(1, "basketCount of a new object", flock.basketCount(), 0);
        Check.is(1, "cloudCount of a new object", flock.cloudCount(), 0);
        Check.is(1, "stepCount of a new object", flock.stepCount(), 0);
        Check.is(1, "turnLength of a new object", flock.turnLength(), 4);
        Check.is(1, "keep of a new object", flock.keep(), 3);
        Check.is(1, "shapeCount of a new object", flock.shapeCount(), 0);
        Check.is(1, "waitTotal of a new object", flock.waitTotal(), 0);
        Check.is(1, "moveTotal of a new object", flock.moveTotal(), 0L);
        Check.is(1, "isConsistent of a new object", flock.isConsistent(), true);
        Check.fails(1, "targetX of a new object", NoSuchElementException.class, flock::targetX);
        Check.fails(1, "leader of a new object", NoSuchElementException.class, flock::leader);
        Check.fails(1, "lineAt of a new object", IndexOutOfBoundsException.class, () -> flock.lineAt(0));
        Check.fails(1, "undo of a new object", IllegalStateException.class, flock::undo);
        Check.fails(1, "restore of a new object", IllegalStateException.class, flock::restore);
    }

    private static void addBasket() {
        BasketFlock flock = new BasketFlock();
        Check.is(2, "addBasket in the first corner", flock.addBasket(0, 0, 0), 0);
        Check.is(2, "addBasket in the last corner", flock.addBasket(11, 11, 2), 1);
        Check.is(2, "addBasket at distance 2 on an axis", flock.addBasket(2, 0, 1), 2);
        Check.is(2, "addBasket at distance 2 aslant", flock.addBasket(1, 1, 1), 3);
        Check.is(2, "basketCount", flock.basketCount(), 4);
        Check.is(2, "leader stays the first one", flock.leader(), 0);
        Check.is(2, "the cells", Flocks.cells(flock), "0,0 11,11 2,0 1,1");
        Check.is(2, "a new basket has not moved", flock.movesOf(3), 0);
    }

    private static void addBasketExceptions() {
        BasketFlock flock = Flocks.withClouds(Flocks.at(5, 5), 8, 8);
        for (int far : FAR) {
            Check.fails(2, "addBasket with x " + far, IllegalArgumentException.class, () -> flock.addBasket(far, 0, 0));
            Check.fails(2, "addBasket with y " + far, IllegalArgumentException.class, () -> flock.addBasket(0, far, 0));
        }
        for (int handle : new int[] {-1, 3, Integer.MIN_VALUE, Integer.MAX_VALUE}) {
            Check.fails(2, "addBasket with handle " + handle, IllegalArgumentException.class,
                    () -> flock.addBasket(0, 0, handle));
        }
        Check.fails(2, "addBasket with a wrong handle in a cloud", IllegalArgumentException.class,
                () -> flock.addBasket(8, 8, 3));
        Check.fails(2, "addBasket in the same cell", UnsupportedOperationException.class,
                () -> flock.addBasket(5, 5, 0));
        Check.fails(2, "addBasket above", UnsupportedOperationException.class, () -> flock.addBasket(5, 6, 0));
        Check.fails(2, "addBasket below", UnsupportedOperationException.class, () -> flock.addBasket(5, 4, 0));
        Check.fails(2, "addBasket on the left", UnsupportedOperationException.class, () -> flock.addBasket(4, 5, 0));
        Check.fails(2, "addBasket on the right", UnsupportedOperationException.class, () -> flock.addBasket(6, 5, 0));
        Check.fails(2, "addBasket in a cloud", UnsupportedOperationException.class, () -> flock.addBasket(8, 8, 0));
        Check.is(2, "no basket was added", flock.basketCount(), 1);
        Check.is(2, "two changes can be undone", flock.undo(), 1);

        BasketFlock full = Flocks.full();
        Check.is(2, "ten baskets", full.basketCount(), 10);
        Check.fails(2, "an eleventh basket", IllegalStateException.class, () -> full.addBasket(11, 11, 0));
        Check.fails(2, "an eleventh basket that would touch", IllegalStateException.class,
                () -> full.addBasket(0, 0, 0));
        Check.fails(2, "an eleventh basket out of range", IllegalArgumentException.class,
                () -> full.addBasket(12, 0, 0));
        Check.fails(2, "no refusal of the eleventh", NoSuchElementException.class, full::refusalReason);
    }

    private static void jump() {
        BasketFlock flock = Flocks.at(0, 0, 5, 5);
        Check.is(3, "jump into the last corner", flock.jump(0, 11, 11), 22);
        Check.is(3, "jump into its own cell", flock.jump(0, 11, 11), 0);
        Check.is(3, "jump beside its own cell", flock.jump(0, 10, 11), 1);
        Check.is(3, "jump to distance 2 of the other", flock.jump(0, 4, 4), 13);
        Check.is(3, "the cells", Flocks.cells(flock), "4,4 5,5");
        Check.is(3, "a jump is not a move", flock.movesOf(0), 0);
        Check.is(3, "a jump is not a move of the flock", flock.moveTotal(), 0L);
    }

    private static void jumpExceptions() {
        BasketFlock flock = Flocks.withClouds(Flocks.at(0, 0, 5, 5), 8, 8);
        for (int basket : new int[] {-1, 2, 9, 10, Integer.MIN_VALUE, Integer.MAX_VALUE}) {
            Check.fails(3, "jump of " + basket, IndexOutOfBoundsException.class, () -> flock.jump(basket, 3, 3));
            Check.fails(3, "jump of " + basket + " out of range", IndexOutOfBoundsException.class,
                    () -> flock.jump(basket, 12, 3));
        }
        for (int far : FAR) {
            Check.fails(3, "jump to x " + far, IllegalArgumentException.class, () -> flock.jump(0, far, 5));
            Check.fails(3, "jump to y " + far, IllegalArgumentException.class, () -> flock.jump(0, 5, far));
        }
        Check.fails(3, "jump into the cell of the other", UnsupportedOperationException.class,
                () -> flock.jump(0, 5, 5));
        Check.fails(3, "jump beside the other", UnsupportedOperationException.class, () -> flock.jump(0, 4, 5));
        Check.fails(3, "jump of the later one beside the first", UnsupportedOperationException.class,
                () -> flock.jump(1, 0, 1));
        Check.fails(3, "jump into a cloud", UnsupportedOperationException.class, () -> flock.jump(1, 8, 8));
        Check.is(3, "nobody jumped", Flocks.cells(flock), "0,0 5,5");
    }

    private static void setHandle() {
        BasketFlock flock = Flocks.at(0, 0, 5, 5);
        Check.is(4, "setHandle from 1 to 2", flock.setHandle(1, 2), 1);
        Check.is(4, "setHandle to the same", flock.setHandle(1, 2), 2);
        Check.is(4, "setHandle to 0", flock.setHandle(1, 0), 2);
        Check.is(4, "the other keeps its handle", flock.handleOf(0), 0);
        Check.fails(4, "setHandle of -1", IndexOutOfBoundsException.class, () -> flock.setHandle(-1, 0));
        Check.fails(4, "setHandle of 2", IndexOutOfBoundsException.class, () -> flock.setHandle(2, 0));
        Check.fails(4, "setHandle of 2 to 3", IndexOutOfBoundsException.class, () -> flock.setHandle(2, 3));
        Check.fails(4, "setHandle to 3", IllegalArgumentException.class, () -> flock.setHandle(1, 3));
        Check.fails(4, "setHandle to -1", IllegalArgumentException.class, () -> flock.setHandle(1, -1));
        Check.is(4, "the handle after the failures", flock.handleOf(1), 0);
    }

    private static void readings() {
        BasketFlock flock = Flocks.at(3, 7, 5, 9);
        Check.is(5, "basketCount", flock.basketCount(), 2);
        flock.undo();
        Check.is(5, "basketCount after undo", flock.basketCount(), 1);
        Check.is(6, "xOf", flock.xOf(0), 3);
        Check.is(7, "yOf", flock.yOf(0), 7);
        Check.is(8, "handleOf", flock.handleOf(0), 0);
        for (int basket : new int[] {-1, 1, 9, 10, Integer.MIN_VALUE, Integer.MAX_VALUE}) {
            Check.fails(6, "xOf " + basket, IndexOutOfBoundsException.class, () -> flock.xOf(basket));
            Check.fails(7, "yOf " + basket, IndexOutOfBoundsException.class, () -> flock.yOf(basket));
            Check.fails(8, "handleOf " + basket, IndexOutOfBoundsException.class, () -> flock.handleOf(basket));
        }
        flock.addBasket(0, 1, 2);
        Check.is(6, "xOf the second", flock.xOf(1), 0);
        Check.is(7, "yOf the second", flock.yOf(1), 1);
        Check.is(8, "handleOf the second", flock.handleOf(1), 2);
    }

    private static void basketAt() {
        BasketFlock flock = Flocks.withClouds(Flocks.at(3, 7, 11, 11, 0, 0), 4, 4);
        Check.is(9, "basketAt 3,7", flock.basketAt(3, 7), 0);
        Check.is(9, "basketAt 11,11", flock.basketAt(11, 11), 1);
        Check.is(9, "basketAt 0,0", flock.basketAt(0, 0), 2);
        Check.fails(9, "basketAt 7,3", NoSuchElementException.class, () -> flock.basketAt(7, 3));
        Check.fails(9, "basketAt a cloud", NoSuchElementException.class, () -> flock.basketAt(4, 4));
        for (int far : FAR) {
            Check.fails(9, "basketAt x " + far, IllegalArgumentException.class, () -> flock.basketAt(far, 7));
            Check.fails(9, "basketAt y " + far, IllegalArgumentException.class, () -> flock.basketAt(3, far));
        }
    }

    private static void distance() {
        BasketFlock flock = Flocks.at(3, 7, 5, 2);
        Check.is(10, "distance 0 1", flock.distance(0, 1), 7);
        Check.is(10, "distance 1 0", flock.distance(1, 0), 7);
        Check.is(10, "distance to itself", flock.distance(1, 1), 0);
        for (int basket : new int[] {-1, 2, 10, Integer.MIN_VALUE, Integer.MAX_VALUE}) {
            Check.fails(10, "distance of " + basket, IndexOutOfBoundsException.class, () -> flock.distance(basket, 0));
            Check.fails(10, "distance to " + basket, IndexOutOfBoundsException.class, () -> flock.distance(0, basket));
        }
    }

    private static void nearestTo() {
        BasketFlock flock = Flocks.at(5, 5);
        Check.fails(11, "nearestTo the only one", NoSuchElementException.class, () -> flock.nearestTo(0));
        Check.fails(11, "nearestTo 1", IndexOutOfBoundsException.class, () -> flock.nearestTo(1));
        Check.fails(11, "nearestTo -1", IndexOutOfBoundsException.class, () -> flock.nearestTo(-1));
        Check.fails(11, "nearestTo in an empty sky", IndexOutOfBoundsException.class,
                () -> new BasketFlock().nearestTo(0));
        flock.addBasket(9, 5, 0);
        flock.addBasket(5, 8, 0);
        flock.addBasket(2, 5, 0);
        Check.is(11, "nearestTo with a tie", flock.nearestTo(0), 2);
        Check.is(11, "nearestTo 1", flock.nearestTo(1), 0);
        Check.is(11, "nearestTo 2", flock.nearestTo(2), 0);
        Check.is(11, "nearestTo 3", flock.nearestTo(3), 0);
    }

    private static void refusals() {
        BasketFlock flock = Flocks.withClouds(Flocks.at(2, 2, 4, 2), 3, 2, 9, 9);
        Check.fails(12, "refusalReason before a refusal", NoSuchElementException.class, flock::refusalReason);
        Check.fails(13, "refusalDetail before a refusal", NoSuchElementException.class, flock::refusalDetail);
        refuse(flock, 3, 2);
        Check.is(12, "a cloud beside baskets", flock.refusalReason(), 1);
        Check.is(13, "the number of clouds", flock.refusalDetail(), 2);
        flock.removeCloud(3, 2);
        Check.is(13, "the detail stays", flock.refusalDetail(), 2);
        refuse(flock, 3, 2);
        Check.is(12, "between two baskets", flock.refusalReason(), 2);
        Check.is(13, "the lowest of both", flock.refusalDetail(), 0);
        Check.fails(12, "jump beside basket 1", UnsupportedOperationException.class, () -> flock.jump(0, 3, 2));
        Check.is(13, "its own cell does not count", flock.refusalDetail(), 1);
        flock.undo();
        Check.is(12, "the refusal is not undone", flock.refusalReason(), 2);
        flock.save();
        refuse(flock, 9, 9);
        flock.restore();
        Check.is(12, "the refusal is not restored", flock.refusalReason(), 1);
        Check.is(13, "the detail is not restored", flock.refusalDetail(), 2);
        Check.fails(12, "addCloud on a basket", UnsupportedOperationException.class, () -> flock.addCloud(4, 2));
        Check.is(12, "a cloud that cannot be added is no refusal", flock.refusalReason(), 1);
    }

    private static void refuse(BasketFlock flock, int x, int y) {
        Check.fails(2, "a refusal", UnsupportedOperationException.class, () -> flock.addBasket(x, y, 0));
    }
}
