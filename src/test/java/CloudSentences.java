/** The sentences of promises 14 to 17. */
final class CloudSentences extends SentenceTests {
    private CloudSentences() {
    }

    static void run() {
        addCloud();
        addCloudFails();
        removeCloud();
        isCloud();
        cloudCount();
    }

    private static BasketFlock clouds(int count) {
        BasketFlock flock = Flocks.at(5, 5);
        for (int cloud = 0; cloud < count; cloud++) {
            flock.addCloud(cloud, 1);
        }
        return flock;
    }

    private static int cloudsSeen(BasketFlock flock) {
        int seen = 0;
        for (int y = 0; y < 12; y++) {
            for (int x = 0; x < 12; x++) {
                seen += flock.isCloud(x, y) ? 1 : 0;
            }
        }
        return seen;
    }

    private static void addCloud() {
        test(14, "Puts a cloud into a cell.", () -> {
            for (int[] corner : new int[][] {{0, 0}, {11, 0}, {0, 11}, {11, 11}, {3, 7}}) {
                BasketFlock flock = Flocks.withClouds(new BasketFlock(), corner);
                is("in " + corner[0] + "," + corner[1], flock.isCloud(corner[0], corner[1]), true);
                is("in no other cell", cloudsSeen(flock), 1);
                fails(UNSUPPORTED, "no basket can be placed there", () -> flock.addBasket(corner[0], corner[1], 0));
            }
        });
        test(14, "`x`: the x coordinate, 0 to 11", () -> {
            for (int x = 0; x <= 11; x++) {
                is("x " + x, Flocks.withClouds(new BasketFlock(), x, 5).isCloud(x, 5), true);
            }
        });
        test(14, "`y`: the y coordinate, 0 to 11", () -> {
            for (int y = 0; y <= 11; y++) {
                is("y " + y, Flocks.withClouds(new BasketFlock(), 5, y).isCloud(5, y), true);
            }
        });
        test(14, "Returns the number of clouds after the call.", () -> {
            BasketFlock flock = new BasketFlock();
            keepsEach("cloud", 1, 8, cloud -> flock.addCloud(cloud, cloud));
            flock.removeCloud(3, 3);
            is("again after one was removed", flock.addCloud(0, 0), 8);
        });
    }

    private static void addCloudFails() {
        test(14, "Throws `IllegalArgumentException`", () -> {
            failsOutside(ARGUMENT, "x", 0, 11, x -> new BasketFlock().addCloud(x, 5));
            failsOutside(ARGUMENT, "y", 0, 11, y -> new BasketFlock().addCloud(5, y));
        });
        test(14, "Throws `IllegalStateException`", () -> {
            is("the eighth cloud", clouds(7).addCloud(9, 9), 8);
            fails(STATE, "the ninth cloud", () -> clouds(8).addCloud(9, 9));
            fails(STATE, "the cell of the only cloud", () -> clouds(1).addCloud(0, 1));
            fails(STATE, "the cell of the seventh of seven clouds", () -> clouds(7).addCloud(6, 1));
            fails(STATE, "the cell of the first of eight clouds", () -> clouds(8).addCloud(0, 1));
            BasketFlock flock = clouds(8);
            flock.removeCloud(7, 1);
            is("the cell of a removed cloud", flock.addCloud(7, 1), 8);
            flock.undo();
            is("the cell of an undone cloud", flock.addCloud(7, 1), 8);
        });
        test(14, "Throws `UnsupportedOperationException`", () -> {
            BasketFlock flock = Flocks.at(5, 5, 0, 0, 11, 11);
            fails(UNSUPPORTED, "the cell of the first basket", () -> flock.addCloud(5, 5));
            fails(UNSUPPORTED, "the cell of the last basket", () -> flock.addCloud(11, 11));
            fails(NONE, "no placing was refused", flock::refusalReason);
            is("above a basket", flock.addCloud(5, 6), 1);
            is("below a basket", flock.addCloud(5, 4), 2);
            is("on the left of a basket", flock.addCloud(4, 5), 3);
            is("on the right of a basket", flock.addCloud(6, 5), 4);
            flock.jump(0, 8, 8);
            is("the cell that a basket has left", flock.addCloud(5, 5), 5);
        });
    }

    private static void removeCloud() {
        test(15, "Removes the cloud from a cell.", () -> {
            BasketFlock flock = Flocks.withClouds(new BasketFlock(), 0, 0, 11, 0, 0, 11, 11, 11);
            flock.removeCloud(11, 0);
            is("no cloud is there", flock.isCloud(11, 0), false);
            is("the other clouds stay", cloudsSeen(flock), 3);
            is("a basket can be placed there", flock.addBasket(11, 0, 0), 0);
        });
        test(15, "`x`: the x coordinate, 0 to 11", () -> {
            for (int x = 0; x <= 11; x++) {
                is("x " + x, Flocks.withClouds(new BasketFlock(), x, 5).removeCloud(x, 5), 0);
            }
        });
        test(15, "`y`: the y coordinate, 0 to 11", () -> {
            for (int y = 0; y <= 11; y++) {
                is("y " + y, Flocks.withClouds(new BasketFlock(), 5, y).removeCloud(5, y), 0);
            }
        });
        test(15, "Returns the number of clouds after the call.", () -> {
            BasketFlock flock = clouds(8);
            keepsEach("clouds left", 0, 7, cloud -> 7 - flock.removeCloud(cloud, 1));
        });
        test(15, "Throws `IllegalArgumentException`", () -> {
            failsOutside(ARGUMENT, "x", 0, 11, x -> clouds(8).removeCloud(x, 1));
            failsOutside(ARGUMENT, "y", 0, 11, y -> clouds(8).removeCloud(0, y));
        });
        test(15, "Throws `NoSuchElementException`", () -> {
            fails(NONE, "no clouds at all", () -> new BasketFlock().removeCloud(0, 0));
            BasketFlock flock = Flocks.withClouds(Flocks.at(5, 5), 3, 3);
            fails(NONE, "beside a cloud along x", () -> flock.removeCloud(4, 3));
            fails(NONE, "beside a cloud along y", () -> flock.removeCloud(3, 2));
            fails(NONE, "the cell of a basket", () -> flock.removeCloud(5, 5));
            flock.removeCloud(3, 3);
            fails(NONE, "a removed cloud", () -> flock.removeCloud(3, 3));
        });
    }

    private static void isCloud() {
        test(16, "Returns whether a cloud is in a cell.", () -> {
            BasketFlock flock = Flocks.withClouds(Flocks.at(5, 5), 3, 7);
            is("a cloud", flock.isCloud(3, 7), true);
            is("a basket", flock.isCloud(5, 5), false);
            flock.removeCloud(3, 7);
            is("a removed cloud", flock.isCloud(3, 7), false);
            flock.undo();
            is("a cloud whose removal was undone", flock.isCloud(3, 7), true);
        });
        test(16, "`x`: the x coordinate, 0 to 11", () -> {
            for (int x = 0; x <= 11; x++) {
                is("x " + x, new BasketFlock().isCloud(x, 5), false);
                is("x " + x + " with a cloud", Flocks.withClouds(new BasketFlock(), x, 5).isCloud(x, 5), true);
            }
        });
        test(16, "`y`: the y coordinate, 0 to 11", () -> {
            for (int y = 0; y <= 11; y++) {
                is("y " + y, new BasketFlock().isCloud(5, y), false);
                is("y " + y + " with a cloud", Flocks.withClouds(new BasketFlock(), 5, y).isCloud(5, y), true);
            }
        });
        test(16, "Returns whether a cloud is in it.", () -> {
            BasketFlock flock = Flocks.withClouds(new BasketFlock(), 3, 7);
            is("the cloud", flock.isCloud(3, 7), true);
            is("x and y exchanged", flock.isCloud(7, 3), false);
            is("one less x", flock.isCloud(2, 7), false);
            is("one greater x", flock.isCloud(4, 7), false);
            is("one less y", flock.isCloud(3, 6), false);
            is("one greater y", flock.isCloud(3, 8), false);
        });
        test(16, "Throws `IllegalArgumentException`", () -> {
            failsOutside(ARGUMENT, "x", 0, 11, x -> clouds(8).isCloud(x, 1));
            failsOutside(ARGUMENT, "y", 0, 11, y -> clouds(8).isCloud(0, y));
        });
    }

    private static void cloudCount() {
        test(17, "Returns the number of clouds.", () -> {
            keepsEach("clouds", 0, 8, count -> clouds(count).cloudCount());
            BasketFlock flock = clouds(8);
            fails(STATE, "a ninth cloud", () -> flock.addCloud(9, 9));
            is("all places taken", flock.cloudCount(), 8);
            flock.removeCloud(0, 1);
            is("one removed", flock.cloudCount(), 7);
            flock.undo();
            is("its removal undone", flock.cloudCount(), 8);
        });
    }
}
