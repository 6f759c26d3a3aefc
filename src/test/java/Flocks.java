/** Makes flocks for the tests. */
final class Flocks {
    private Flocks() {
    }

    /** Cells are told as x and y in turn; the handles go 0, 1, 2, 0, .. */
    static BasketFlock at(int... cells) {
        BasketFlock flock = new BasketFlock();
        for (int i = 0; i < cells.length; i += 2) {
            flock.addBasket(cells[i], cells[i + 1], i / 2 % 3);
        }
        return flock;
    }

    static BasketFlock full() {
        return at(0, 0, 2, 0, 4, 0, 6, 0, 8, 0, 10, 0, 0, 3, 2, 3, 4, 3, 6, 3);
    }

    static BasketFlock withClouds(BasketFlock flock, int... cells) {
        for (int i = 0; i < cells.length; i += 2) {
            flock.addCloud(cells[i], cells[i + 1]);
        }
        return flock;
    }

    static String cells(BasketFlock flock) {
        StringBuilder cells = new StringBuilder();
        for (int basket = 0; basket < flock.basketCount(); basket++) {
            cells.append(flock.xOf(basket)).append(',').append(flock.yOf(basket)).append(' ');
        }
        return cells.toString().trim();
    }

    static BasketFlock type(BasketFlock flock, String text) {
        for (char character : text.toCharArray()) {
            flock.append(character);
        }
        return flock;
    }

    static String line(BasketFlock flock, int y) {
        int length = flock.describeRow(y);
        StringBuilder line = new StringBuilder();
        for (int i = 0; i < length; i++) {
            line.append(flock.lineAt(i));
        }
        return line.toString();
    }

    static int run(BasketFlock flock, String text) {
        return type(flock, text).run();
    }

    /** Everything that changes can change, as far as a caller can see it without a change. */
    static String describe(BasketFlock flock) {
        StringBuilder all = new StringBuilder(cells(flock));
        for (int basket = 0; basket < flock.basketCount(); basket++) {
            all.append(" handle ").append(flock.handleOf(basket)).append(" moves ").append(flock.movesOf(basket));
        }
        for (int y = 0; y < 12; y++) {
            for (int x = 0; x < 12; x++) {
                all.append(flock.isCloud(x, y) ? '#' : '.');
            }
        }
        all.append(" clouds ").append(flock.cloudCount());
        all.append(" turn ").append(flock.turnLength()).append(" keep ").append(flock.keep());
        all.append(" steps ").append(flock.stepCount()).append(" waits ").append(flock.waitTotal());
        all.append(" shapes ").append(flock.shapeCount()).append(" different ").append(flock.differentShapes());
        all.append(" moves ").append(flock.moveTotal());
        for (int steps = 0; flock.basketCount() > 0 && steps <= 10; steps++) {
            all.append(" leader ").append(flock.leaderAfter(steps));
        }
        all.append(" target ").append(target(flock)).append(" since ").append(sinceShape(flock));
        return all.toString();
    }

    private static String target(BasketFlock flock) {
        return outcome(() -> flock.targetX() + "," + flock.targetY());
    }

    private static String sinceShape(BasketFlock flock) {
        return outcome(flock::stepsSinceShape);
    }

    /** Also what changes do not change; the command text and the changes that can be undone cannot be read. */
    static String everything(BasketFlock flock) {
        StringBuilder all = new StringBuilder(describe(flock));
        all.append(" refusal ").append(outcome(flock::refusalReason)).append(' ').append(outcome(flock::refusalDetail));
        all.append(" error ").append(outcome(flock::errorPosition));
        all.append(" failed ").append(outcome(flock::failedCommand));
        all.append(" line ");
        for (int index = 0; index < 12; index++) {
            int at = index;
            all.append(outcome(() -> flock.lineAt(at)));
        }
        return all.toString();
    }

    /** Undoes everything, completes and runs the command text, and restores: so it is seen what they were. */
    static String aftermath(BasketFlock flock) {
        StringBuilder all = new StringBuilder();
        for (int undos = 0; undos < 9; undos++) {
            all.append(" undo ").append(outcome(flock::undo)).append(' ').append(describe(flock));
        }
        all.append(" append ").append(outcome(() -> flock.append('6')));
        all.append(" run ").append(outcome(flock::run)).append(' ').append(everything(flock));
        all.append(" restore ").append(outcome(flock::restore)).append(' ').append(describe(flock));
        return all.toString();
    }

    /** The answer, or the exception that was thrown instead. */
    static String outcome(Check.Call call) {
        try {
            return String.valueOf(call.answer());
        } catch (RuntimeException thrown) {
            return "throws." + thrown.getClass().getSimpleName();
        }
    }
}
