import java.util.NoSuchElementException;

/** Promises 14 to 17. */
final class CloudTests {
    private static final int[] FAR = {-1, 12, Integer.MIN_VALUE, Integer.MAX_VALUE};

    private CloudTests() {
    }

    static void run() {
        ordinary();
        exceptions();
    }

    private static void ordinary() {
        BasketFlock flock = Flocks.at(5, 5);
        Check.is(17, "cloudCount without clouds", flock.cloudCount(), 0);
        Check.is(14, "addCloud in the first corner", flock.addCloud(0, 0), 1);
        Check.is(14, "addCloud in the last corner", flock.addCloud(11, 11), 2);
        Check.is(14, "addCloud beside a basket", flock.addCloud(5, 6), 3);
        Check.is(16, "isCloud 0,0", flock.isCloud(0, 0), true);
        Check.is(16, "isCloud 11,11", flock.isCloud(11, 11), true);
        Check.is(16, "isCloud 5,6", flock.isCloud(5, 6), true);
        Check.is(16, "isCloud 6,5", flock.isCloud(6, 5), false);
        Check.is(16, "isCloud of the basket's cell", flock.isCloud(5, 5), false);
        Check.is(17, "cloudCount", flock.cloudCount(), 3);
        Check.is(15, "removeCloud", flock.removeCloud(0, 0), 2);
        Check.is(16, "isCloud of a removed one", flock.isCloud(0, 0), false);
        Check.is(16, "isCloud of another one", flock.isCloud(11, 11), true);
        Check.is(17, "cloudCount after removeCloud", flock.cloudCount(), 2);
        Check.is(14, "addCloud again", flock.addCloud(0, 0), 3);
    }

    private static void exceptions() {
        BasketFlock flock = Flocks.withClouds(Flocks.at(5, 5), 0, 0, 1, 0, 2, 0, 3, 0, 4, 0, 5, 0, 6, 0);
        for (int far : FAR) {
            Check.fails(14, "addCloud x " + far, IllegalArgumentException.class, () -> flock.addCloud(far, 0));
            Check.fails(14, "addCloud y " + far, IllegalArgumentException.class, () -> flock.addCloud(0, far));
            Check.fails(15, "removeCloud x " + far, IllegalArgumentException.class, () -> flock.removeCloud(far, 0));
            Check.fails(15, "removeCloud y " + far, IllegalArgumentException.class, () -> flock.removeCloud(0, far));
            Check.fails(16, "isCloud x " + far, IllegalArgumentException.class, () -> flock.isCloud(far, 0));
            Check.fails(16, "isCloud y " + far, IllegalArgumentException.class, () -> flock.isCloud(0, far));
        }
        Check.fails(14, "addCloud on a cloud", IllegalStateException.class, () -> flock.addCloud(6, 0));
        Check.fails(14, "addCloud on a basket", UnsupportedOperationException.class, () -> flock.addCloud(5, 5));
        Check.is(14, "the eighth cloud", flock.addCloud(7, 0), 8);
        Check.fails(14, "the ninth cloud", IllegalStateException.class, () -> flock.addCloud(8, 0));
        Check.fails(14, "the ninth cloud on a basket", IllegalStateException.class, () -> flock.addCloud(5, 5));
        Check.fails(14, "the ninth cloud out of range", IllegalArgumentException.class, () -> flock.addCloud(12, 0));
        Check.fails(15, "removeCloud without a cloud", NoSuchElementException.class, () -> flock.removeCloud(8, 0));
        Check.fails(15, "removeCloud of a basket", NoSuchElementException.class, () -> flock.removeCloud(5, 5));
        Check.is(17, "cloudCount after the failures", flock.cloudCount(), 8);
        Check.fails(14, "no refusal was kept", NoSuchElementException.class, flock::refusalReason);
    }
}
