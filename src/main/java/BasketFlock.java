import java.util.NoSuchElementException;

/**
 * A flock of baskets that migrates over a grid of cells: leaders by turns, distances that are kept,
 * clouds, formations of linked baskets, and shapes of the flock.
 */
public final class BasketFlock {
    private static final int SKY_SIZE = 12;
    private static final int MOST_BASKETS = 10;
    private static final int MOST_CLOUDS = 8;
    private static final int HANDLES = 3;
    private static final int MOST_SHAPES = 16;
    private static final int MOST_UNDOS = 8;
    private static final int MOST_CHARACTERS = 60;
    private static final int MOST_STEPS_AHEAD = 99;
    private static final int MOST_STEPS_TO_TARGET = 60;
    private static final int STEPS_AHEAD_CHECKED = 20;

    /** Stands for a basket, a coordinate or a position that there is not. */
    private static final int NOTHING = -1;

    // The kinds of changes that are also commands.
    private static final int ADD = 0;
    private static final int JUMP = 1;
    private static final int HANDLE = 2;
    private static final int CLOUD = 3;
    private static final int CLEAR = 4;
    private static final int TURN = 5;
    private static final int GOAL = 6;
    private static final int KEEP = 7;
    private static final int STEP = 8;
    private static final int KINDS = 9;

    // What can hinder a change; each one but FREE stands for an exception.
    private static final int FREE = 0;
    private static final int NO_SUCH_BASKET = 1;
    private static final int OUT_OF_RANGE = 2;
    private static final int WRONG_STATE = 3;
    private static final int NOT_THERE = 4;
    private static final int IN_THE_WAY = 5;
    private static final int REFUSED = 6;

    private static final int REFUSED_BY_CLOUD = 1;
    private static final int REFUSED_BY_BASKET = 2;

    private final Flock now = new Flock();
    // Both stepsToTarget and run try things out on it, so that they need not be taken back.
    private final Flock draft = new Flock();
    private final Flock snapshot = new Flock();
    private boolean hasSnapshot = false;
    private final History history = new History();
    private final Formations formations = new Formations();
    private final CommandText text = new CommandText();
    private int latestErrorPosition = NOTHING;
    private int latestFailedCommand = NOTHING;
    private int latestReason = NOTHING;
    private int latestDetail = NOTHING;
    private final char[] line = new char[SKY_SIZE];
    private int lineLength = 0;

    public BasketFlock() {
    }

    // ---- baskets

    public int addBasket(int x, int y, int handle)
            throws IllegalArgumentException, IllegalStateException, UnsupportedOperationException {
        prepare(ADD, x, y, handle);
        return now.add(x, y, handle);
    }

    public int jump(int basket, int x, int y)
            throws IndexOutOfBoundsException, IllegalArgumentException, UnsupportedOperationException {
        prepare(JUMP, basket, x, y);
        return now.put(basket, x, y);
    }

    public int setHandle(int basket, int handle) throws IndexOutOfBoundsException, IllegalArgumentException {
        prepare(HANDLE, basket, handle, 0);
        return now.replaceHandle(basket, handle);
    }

    public int basketCount() {
        return now.count;
    }

    public int xOf(int basket) throws IndexOutOfBoundsException {
        demandBasket(basket);
        return now.xs[basket];
    }

    public int yOf(int basket) throws IndexOutOfBoundsException {
        demandBasket(basket);
        return now.ys[basket];
    }

    public int handleOf(int basket) throws IndexOutOfBoundsException {
        demandBasket(basket);
        return now.handles[basket];
    }

    public int basketAt(int x, int y) throws IllegalArgumentException, NoSuchElementException {
        demandCell(x, y);
        int basket = now.basketIn(x, y);
        if (basket == NOTHING) {
            throw new NoSuchElementException("no basket is in the cell");
        }
        return basket;
    }

    public int distance(int basket, int other) throws IndexOutOfBoundsException {
        demandBasket(basket);
        demandBasket(other);
        return now.distanceOf(basket, other);
    }

    public int nearestTo(int basket) throws IndexOutOfBoundsException, NoSuchElementException {
        demandBasket(basket);
        int nearest = now.nearestOther(basket);
        if (nearest == NOTHING) {
            throw new NoSuchElementException("there is no other basket");
        }
        return nearest;
    }

    public int refusalReason() throws NoSuchElementException {
        demandRefusal();
        return latestReason;
    }

    public int refusalDetail() throws NoSuchElementException {
        demandRefusal();
        return latestDetail;
    }

    // ---- clouds

    public int addCloud(int x, int y)
            throws IllegalArgumentException, IllegalStateException, UnsupportedOperationException {
        prepare(CLOUD, x, y, 0);
        return now.clouds.put(x, y);
    }

    public int removeCloud(int x, int y) throws IllegalArgumentException, NoSuchElementException {
        prepare(CLEAR, x, y, 0);
        return now.clouds.remove(x, y);
    }

    public boolean isCloud(int x, int y) throws IllegalArgumentException {
        demandCell(x, y);
        return now.clouds.covers(x, y);
    }

    public int cloudCount() {
        return now.clouds.count;
    }

    // ---- leaders

    public int setTurnLength(int steps) throws IllegalArgumentException {
        prepare(TURN, steps, 0, 0);
        return now.replaceTurn(steps);
    }

    public int turnLength() {
        return now.turn;
    }

    public int leader() throws NoSuchElementException {
        demandAnyBasket();
        return now.leading;
    }

    public int leaderAfter(int steps) throws IllegalArgumentException, NoSuchElementException {
        demandStepsAhead(steps);
        demandAnyBasket();
        return now.leaderByFormula(steps);
    }

    public int leaderAfterByCounting(int steps) throws IllegalArgumentException, NoSuchElementException {
        demandStepsAhead(steps);
        demandAnyBasket();
        return now.leaderByCounting(steps);
    }

    public int setTarget(int x, int y) throws IllegalArgumentException, NoSuchElementException {
        prepare(GOAL, x, y, 0);
        return now.replaceGoal(x, y);
    }

    public int targetX() throws NoSuchElementException {
        demandTarget();
        return now.goalX;
    }

    public int targetY() throws NoSuchElementException {
        demandTarget();
        return now.goalY;
    }

    public int stepsToTarget() throws NoSuchElementException {
        demandTarget();
        draft.copyFrom(now);
        int steps = 0;
        while (steps < MOST_STEPS_TO_TARGET && !draft.leaderIsOnTarget()) {
            draft.passSteps(1);
            steps++;
        }
        if (!draft.leaderIsOnTarget()) {
            throw new NoSuchElementException("no leader is on the target soon enough");
        }
        return steps;
    }

    // ---- steps

    public int setKeep(int distance) throws IllegalArgumentException {
        prepare(KEEP, distance, 0, 0);
        return now.replaceKept(distance);
    }

    public int keep() {
        return now.kept;
    }

    public int advance(int steps) throws IllegalArgumentException {
        prepare(STEP, steps, 0, 0);
        return now.passSteps(steps);
    }

    public int stepCount() {
        return now.steps;
    }

    public int movesOf(int basket) throws IndexOutOfBoundsException {
        demandBasket(basket);
        return now.moves[basket];
    }

    public long moveTotal() {
        return now.sumOfMoves();
    }

    public int waitTotal() {
        return now.waits;
    }

    // ---- formations

    public int formationCount() {
        return formations.countByGoing(now);
    }

    public int formationCountByMerging() {
        return formations.countByMerging(now);
    }

    public int largestFormation() {
        return formations.largest(now);
    }

    public int formationOf(int basket) throws IndexOutOfBoundsException {
        demandBasket(basket);
        return formations.lowestWith(now, basket);
    }

    public int mixedPairs() {
        return now.mixedByComparing();
    }

    public int mixedPairsByHandles() {
        return now.mixedByHandles();
    }

    public int shapeCount() {
        return now.shapes.count;
    }

    public int differentShapes() {
        return now.shapes.countDifferent();
    }

    public int stepsSinceShape() throws NoSuchElementException {
        int steps = now.stepsSincePresentShape();
        if (steps == NOTHING) {
            throw new NoSuchElementException("no remembered shape is the present one");
        }
        return steps;
    }

    public int basketAtRank(int rank) throws NoSuchElementException {
        int basket = now.basketWithRank(rank);
        if (basket == NOTHING) {
            throw new NoSuchElementException("there is no such rank");
        }
        return basket;
    }

    // ---- commands

    public int append(char character) throws IllegalArgumentException, IllegalStateException {
        if (character < 32 || character > 126) {
            throw new IllegalArgumentException("the character is not printable");
        }
        if (text.isFull()) {
            throw new IllegalStateException("the command text is full");
        }
        return text.put(character);
    }

    public int run() throws IllegalArgumentException, IllegalStateException {
        int error = text.parse();
        text.clear();
        if (error != NOTHING) {
            latestErrorPosition = error;
            throw new IllegalArgumentException("the text is not a command text");
        }
        draft.copyFrom(now);
        for (int i = 0; i < text.commands; i++) {
            int kind = text.kindOf(i);
            int a = text.number(i, 0);
            int b = text.number(i, 1);
            int c = text.number(i, 2);
            if (hindranceIn(draft, kind, a, b, c) != FREE) {
                latestFailedCommand = i;
                throw new IllegalStateException("a command fails");
            }
            draft.carryOut(kind, a, b, c);
        }
        history.push(now);
        now.copyFrom(draft);
        return text.commands;
    }

    public int errorPosition() throws NoSuchElementException {
        if (latestErrorPosition == NOTHING) {
            throw new NoSuchElementException("no error position was set");
        }
        return latestErrorPosition;
    }

    public int failedCommand() throws NoSuchElementException {
        if (latestFailedCommand == NOTHING) {
            throw new NoSuchElementException("no command has failed");
        }
        return latestFailedCommand;
    }

    // ---- line, statistics, undo, snapshot

    public int describeRow(int y) throws IllegalArgumentException {
        demandCell(0, y);
        for (int x = 0; x < SKY_SIZE; x++) {
            line[x] = now.signOf(x, y);
        }
        lineLength = SKY_SIZE;
        return lineLength;
    }

    public char lineAt(int index) throws IndexOutOfBoundsException {
        if (index < 0 || index >= lineLength) {
            throw new IndexOutOfBoundsException("there is no such index");
        }
        return line[index];
    }

    public double meanDistance() throws ArithmeticException {
        int others = now.count - 1;
        if (others < 1) {
            throw new ArithmeticException("there are fewer than 2 baskets");
        }
        return (double) now.sumOfDistancesFromLeader() / (double) others;
    }

    public float mixedShare() throws ArithmeticException {
        int linked = now.linkedPairs();
        if (linked < 1) {
            throw new ArithmeticException("no baskets are linked");
        }
        return (float) now.mixedByComparing() / (float) linked;
    }

    public boolean isConsistent() {
        return now.isApartAndClear()
                && formations.countByGoing(now) == formations.countByMerging(now)
                && now.mixedByComparing() == now.mixedByHandles()
                && leadersAgree();
    }

    public int undo() throws IllegalStateException {
        if (history.count < 1) {
            throw new IllegalStateException("there is no change to undo");
        }
        history.pop(now);
        return history.count;
    }

    public int save() {
        snapshot.copyFrom(now);
        hasSnapshot = true;
        return now.count;
    }

    public int restore() throws IllegalStateException {
        if (!hasSnapshot) {
            throw new IllegalStateException("there is no snapshot");
        }
        now.copyFrom(snapshot);
        history.forget();
        return now.count;
    }

    private void prepare(int kind, int a, int b, int c) {
        throwFor(hindranceIn(now, kind, a, b, c));
        history.push(now);
    }

    private int hindranceIn(Flock flock, int kind, int a, int b, int c) {
        int hindrance = flock.hindrance(kind, a, b, c);
        if (hindrance == REFUSED) {
            keepRefusal(flock, kind, a, b, c);
        }
        return hindrance;
    }

    private void keepRefusal(Flock flock, int kind, int a, int b, int c) {
        int mover = kind == JUMP ? a : NOTHING;
        int x = kind == JUMP ? b : a;
        int y = kind == JUMP ? c : b;
        if (flock.clouds.covers(x, y)) {
            latestReason = REFUSED_BY_CLOUD;
            latestDetail = flock.clouds.count;
        } else {
            latestReason = REFUSED_BY_BASKET;
            latestDetail = flock.lowestTouched(mover, x, y);
        }
    }

    private static void throwFor(int hindrance) {
        switch (hindrance) {
            case NO_SUCH_BASKET:
                throw new IndexOutOfBoundsException("there is no such basket");
            case OUT_OF_RANGE:
                throw new IllegalArgumentException("a parameter is out of range");
            case WRONG_STATE:
                throw new IllegalStateException("there are enough of them already");
            case NOT_THERE:
                throw new NoSuchElementException("what the call needs is not there");
            case IN_THE_WAY:
                throw new UnsupportedOperationException("a basket is in the cell");
            case REFUSED:
                throw new UnsupportedOperationException("the placing is refused");
            default:
                break;
        }
    }

    private void demandBasket(int basket) {
        if (!now.has(basket)) {
            throw new IndexOutOfBoundsException("there is no such basket");
        }
    }

    private void demandAnyBasket() {
        if (now.count < 1) {
            throw new NoSuchElementException("there are no baskets");
        }
    }

    private void demandCell(int x, int y) {
        if (!Clouds.inSky(x, y)) {
            throw new IllegalArgumentException("a coordinate is out of range");
        }
    }

    private void demandStepsAhead(int steps) {
        if (steps < 0 || steps > MOST_STEPS_AHEAD) {
            throw new IllegalArgumentException("the number of steps is out of range");
        }
    }

    private void demandTarget() {
        if (!now.hasTarget()) {
            throw new NoSuchElementException("there is no target");
        }
    }

    private void demandRefusal() {
        if (latestReason == NOTHING) {
            throw new NoSuchElementException("no placing was refused");
        }
    }

    private boolean leadersAgree() {
        for (int steps = 0; steps <= STEPS_AHEAD_CHECKED; steps++) {
            if (now.leaderByFormula(steps) != now.leaderByCounting(steps)) {
                return false;
            }
        }
        return true;
    }

    /** The sky's cells and the clouds in them. */
    private static final class Clouds {
        // A bit for each cell, so that a copy is made quickly.
        final int[] rows = new int[SKY_SIZE];
        int count = 0;

        static boolean inSky(int x, int y) {
            return x >= 0 && x < SKY_SIZE && y >= 0 && y < SKY_SIZE;
        }

        boolean covers(int x, int y) {
            return inSky(x, y) && (rows[y] & 1 << x) != 0;
        }

        int put(int x, int y) {
            if (inSky(x, y) && !covers(x, y)) {
                rows[y] |= 1 << x;
                count++;
            }
            return count;
        }

        int remove(int x, int y) {
            if (covers(x, y)) {
                rows[y] &= ~(1 << x);
                count--;
            }
            return count;
        }

        void copyFrom(Clouds other) {
            System.arraycopy(other.rows, 0, rows, 0, SKY_SIZE);
            count = other.count;
        }
    }

    /** The latest shapes; a shape is a bit for each cell, four rows of the sky to a word. */
    private static final class Shapes {
        static final int WORDS = 3;
        static final int ROWS_IN_WORD = 4;

        final long[] remembered = new long[MOST_SHAPES * WORDS];
        int count = 0;
        int next = 0;

        void remember(long[] shape) {
            System.arraycopy(shape, 0, remembered, next * WORDS, WORDS);
            next = next + 1 < MOST_SHAPES ? next + 1 : 0;
            count = Math.min(count + 1, MOST_SHAPES);
        }

        int stepsSince(long[] shape) {
            int slot = next;
            for (int ago = 0; ago < count; ago++) {
                slot = slot > 0 ? slot - 1 : MOST_SHAPES - 1;
                if (holds(slot, shape, 0)) {
                    return ago;
                }
            }
            return NOTHING;
        }

        int countDifferent() {
            int different = 0;
            for (int slot = 0; slot < count; slot++) {
                different += standsBefore(slot) ? 0 : 1;
            }
            return different;
        }

        boolean standsBefore(int slot) {
            for (int earlier = 0; earlier < slot; earlier++) {
                if (holds(earlier, remembered, slot)) {
                    return true;
                }
            }
            return false;
        }

        boolean holds(int slot, long[] shapes, int index) {
            for (int word = 0; word < WORDS; word++) {
                if (remembered[slot * WORDS + word] != shapes[index * WORDS + word]) {
                    return false;
                }
            }
            return true;
        }

        void copyFrom(Shapes other) {
            System.arraycopy(other.remembered, 0, remembered, 0, MOST_SHAPES * WORDS);
            count = other.count;
            next = other.next;
        }
    }

    /** Everything that changes can change; an undo, the snapshot and a try-out each hold one of it. */
    private static final class Flock {
        final int[] xs = new int[MOST_BASKETS];
        final int[] ys = new int[MOST_BASKETS];
        final int[] handles = new int[MOST_BASKETS];
        final int[] moves = new int[MOST_BASKETS];
        int count = 0;
        final Clouds clouds = new Clouds();
        final Shapes shapes = new Shapes();
        final long[] presentShape = new long[Shapes.WORDS];
        int leading = 0;
        int led = 0;
        int turn = 4;
        int goalX = NOTHING;
        int goalY = NOTHING;
        int kept = 3;
        int steps = 0;
        int waits = 0;

        void copyFrom(Flock other) {
            System.arraycopy(other.xs, 0, xs, 0, MOST_BASKETS);
            System.arraycopy(other.ys, 0, ys, 0, MOST_BASKETS);
            System.arraycopy(other.handles, 0, handles, 0, MOST_BASKETS);
            System.arraycopy(other.moves, 0, moves, 0, MOST_BASKETS);
            count = other.count;
            clouds.copyFrom(other.clouds);
            shapes.copyFrom(other.shapes);
            leading = other.leading;
            led = other.led;
            turn = other.turn;
            goalX = other.goalX;
            goalY = other.goalY;
            kept = other.kept;
            steps = other.steps;
            waits = other.waits;
        }

        // ---- what hinders a change

        int hindrance(int kind, int a, int b, int c) {
            switch (kind) {
                case ADD:
                    return hindranceToAdd(a, b, c);
                case JUMP:
                    return hindranceToJump(a, b, c);
                case HANDLE:
                    return has(a) ? hindranceOutside(b, 0, HANDLES - 1) : NO_SUCH_BASKET;
                case CLOUD:
                    return hindranceToCloud(a, b);
                case CLEAR:
                    return hindranceToClear(a, b);
                case TURN:
                    return hindranceOutside(a, 2, 9);
                case GOAL:
                    return hindranceToGoal(a, b);
                case KEEP:
                    return hindranceOutside(a, 2, 6);
                case STEP:
                    return hindranceOutside(a, 1, 20);
                default:
                    return WRONG_STATE;
            }
        }

        static int hindranceOutside(int number, int least, int most) {
            return number >= least && number <= most ? FREE : OUT_OF_RANGE;
        }

        int hindranceToAdd(int x, int y, int handle) {
            if (!Clouds.inSky(x, y) || handle < 0 || handle >= HANDLES) {
                return OUT_OF_RANGE;
            }
            if (count >= MOST_BASKETS) {
                return WRONG_STATE;
            }
            return isPossible(NOTHING, x, y) ? FREE : REFUSED;
        }

        int hindranceToJump(int basket, int x, int y) {
            if (!has(basket)) {
                return NO_SUCH_BASKET;
            }
            if (!Clouds.inSky(x, y)) {
                return OUT_OF_RANGE;
            }
            return isPossible(basket, x, y) ? FREE : REFUSED;
        }

        int hindranceToCloud(int x, int y) {
            if (!Clouds.inSky(x, y)) {
                return OUT_OF_RANGE;
            }
            if (clouds.count >= MOST_CLOUDS || clouds.covers(x, y)) {
                return WRONG_STATE;
            }
            return basketIn(x, y) == NOTHING ? FREE : IN_THE_WAY;
        }

        int hindranceToClear(int x, int y) {
            if (!Clouds.inSky(x, y)) {
                return OUT_OF_RANGE;
            }
            return clouds.covers(x, y) ? FREE : NOT_THERE;
        }

        int hindranceToGoal(int x, int y) {
            if (!Clouds.inSky(x, y)) {
                return OUT_OF_RANGE;
            }
            return count > 0 ? FREE : NOT_THERE;
        }

        // ---- changes, each one only where nothing hinders it

        int carryOut(int kind, int a, int b, int c) {
            switch (kind) {
                case ADD:
                    return add(a, b, c);
                case JUMP:
                    return put(a, b, c);
                case HANDLE:
                    return replaceHandle(a, b);
                case CLOUD:
                    return clouds.put(a, b);
                case CLEAR:
                    return clouds.remove(a, b);
                case TURN:
                    return replaceTurn(a);
                case GOAL:
                    return replaceGoal(a, b);
                case KEEP:
                    return replaceKept(a);
                case STEP:
                    return passSteps(a);
                default:
                    return NOTHING;
            }
        }

        int add(int x, int y, int handle) {
            if (count >= MOST_BASKETS) {
                return NOTHING;
            }
            xs[count] = x;
            ys[count] = y;
            handles[count] = handle;
            moves[count] = 0;
            count++;
            return count - 1;
        }

        int put(int basket, int x, int y) {
            if (!has(basket)) {
                return NOTHING;
            }
            int before = distanceFrom(basket, x, y);
            xs[basket] = x;
            ys[basket] = y;
            return before;
        }

        int replaceHandle(int basket, int handle) {
            if (!has(basket)) {
                return NOTHING;
            }
            int before = handles[basket];
            handles[basket] = handle;
            return before;
        }

        int replaceTurn(int length) {
            int before = turn;
            turn = length;
            led = 0;
            return before;
        }

        int replaceGoal(int x, int y) {
            goalX = x;
            goalY = y;
            return distanceFrom(leading, x, y);
        }

        int replaceKept(int distance) {
            int before = kept;
            kept = distance;
            return before;
        }

        // ---- steps

        // The body of a step stands in the loop, for calls may go at most eight deep.
        int passSteps(int number) {
            int moved = 0;
            for (int i = 0; i < number; i++) {
                moved += moveLeader();
                for (int basket = 0; basket < count; basket++) {
                    moved += moveFollower(basket);
                }
                rememberShape();
                steps++;
                passLead();
            }
            return moved;
        }

        int moveLeader() {
            if (!has(leading) || !hasTarget() || leaderIsOnTarget()) {
                return 0;
            }
            int x = xs[leading];
            int y = ys[leading];
            int nextX = oneTowards(x, goalX);
            int nextY = oneTowards(y, goalY);
            boolean alongX = Math.abs(goalX - x) >= Math.abs(goalY - y);
            boolean otherDiffers = alongX ? nextY != y : nextX != x;
            if (goTo(leading, alongX ? nextX : x, alongX ? y : nextY)) {
                return 1;
            }
            if (otherDiffers && goTo(leading, alongX ? x : nextX, alongX ? nextY : y)) {
                return 1;
            }
            waits++;
            return 0;
        }

        static int oneTowards(int from, int to) {
            if (from == to) {
                return from;
            }
            return from < to ? from + 1 : from - 1;
        }

        int moveFollower(int basket) {
            if (basket == leading || distanceOf(basket, leading) <= kept) {
                return 0;
            }
            int x = xs[basket];
            int y = ys[basket];
            boolean moved = (y < ys[leading] && goTo(basket, x, y + 1))
                    || (x < xs[leading] && goTo(basket, x + 1, y))
                    || (y > ys[leading] && goTo(basket, x, y - 1))
                    || (x > xs[leading] && goTo(basket, x - 1, y));
            if (!moved) {
                waits++;
            }
            return moved ? 1 : 0;
        }

        boolean goTo(int basket, int x, int y) {
            if (!has(basket) || !isPossible(basket, x, y)) {
                return false;
            }
            xs[basket] = x;
            ys[basket] = y;
            moves[basket]++;
            return true;
        }

        void rememberShape() {
            if (count > 0) {
                drawPresentShape();
                shapes.remember(presentShape);
            }
        }

        void passLead() {
            if (count < 1) {
                return;
            }
            led++;
            if (led >= turn) {
                led = 0;
                leading = leading + 1 < count ? leading + 1 : 0;
            }
        }

        // ---- cells

        boolean isPossible(int basket, int x, int y) {
            return Clouds.inSky(x, y) && !clouds.covers(x, y) && lowestTouched(basket, x, y) == NOTHING;
        }

        int lowestTouched(int mover, int x, int y) {
            for (int other = 0; other < count; other++) {
                if (other != mover && Math.abs(xs[other] - x) + Math.abs(ys[other] - y) < 2) {
                    return other;
                }
            }
            return NOTHING;
        }

        int basketIn(int x, int y) {
            for (int basket = 0; basket < count; basket++) {
                if (xs[basket] == x && ys[basket] == y) {
                    return basket;
                }
            }
            return NOTHING;
        }

        char signOf(int x, int y) {
            int basket = basketIn(x, y);
            if (basket != NOTHING) {
                return (char) ('0' + basket);
            }
            return clouds.covers(x, y) ? '#' : '.';
        }

        boolean isApartAndClear() {
            for (int basket = 0; basket < count; basket++) {
                if (!isPossible(basket, xs[basket], ys[basket])) {
                    return false;
                }
            }
            return true;
        }

        // ---- distances

        boolean has(int basket) {
            return basket >= 0 && basket < count;
        }

        int distanceFrom(int basket, int x, int y) {
            return has(basket) ? Math.abs(xs[basket] - x) + Math.abs(ys[basket] - y) : NOTHING;
        }

        int distanceOf(int basket, int other) {
            return has(other) ? distanceFrom(basket, xs[other], ys[other]) : NOTHING;
        }

        int nearestOther(int basket) {
            int nearest = NOTHING;
            for (int other = 0; other < count; other++) {
                if (other != basket
                        && (nearest == NOTHING || distanceOf(basket, other) < distanceOf(basket, nearest))) {
                    nearest = other;
                }
            }
            return nearest;
        }

        int basketWithRank(int rank) {
            for (int basket = 0; basket < count; basket++) {
                if (rankOf(basket) == rank) {
                    return basket;
                }
            }
            return NOTHING;
        }

        int rankOf(int basket) {
            int own = distanceOf(basket, leading);
            int rank = 0;
            for (int other = 0; other < count; other++) {
                int distance = distanceOf(other, leading);
                if (distance < own || distance == own && other < basket) {
                    rank++;
                }
            }
            return rank;
        }

        int sumOfDistancesFromLeader() {
            int sum = 0;
            for (int basket = 0; basket < count; basket++) {
                sum += distanceOf(basket, leading);
            }
            return sum;
        }

        // ---- leaders

        boolean hasTarget() {
            return goalX != NOTHING;
        }

        boolean leaderIsOnTarget() {
            return hasTarget() && distanceFrom(leading, goalX, goalY) == 0;
        }

        int leaderByFormula(int stepsAhead) {
            if (count < 1 || turn < 1) {
                return NOTHING;
            }
            return (leading + (led + stepsAhead) / turn) % count;
        }

        int leaderByCounting(int stepsAhead) {
            if (count < 1) {
                return NOTHING;
            }
            int basket = leading;
            int hasLed = led;
            for (int step = 0; step < stepsAhead; step++) {
                hasLed++;
                if (hasLed >= turn) {
                    hasLed = 0;
                    basket = basket + 1 < count ? basket + 1 : 0;
                }
            }
            return basket;
        }

        long sumOfMoves() {
            long sum = 0;
            for (int basket = 0; basket < count; basket++) {
                sum += moves[basket];
            }
            return sum;
        }

        // ---- links

        boolean linked(int basket, int other) {
            return distanceOf(basket, other) <= kept;
        }

        int linkedPairs() {
            int pairs = 0;
            for (int basket = 0; basket < count; basket++) {
                for (int other = basket + 1; other < count; other++) {
                    pairs += linked(basket, other) ? 1 : 0;
                }
            }
            return pairs;
        }

        int mixedByComparing() {
            int pairs = 0;
            for (int basket = 0; basket < count; basket++) {
                for (int other = basket + 1; other < count; other++) {
                    pairs += handles[basket] != handles[other] && linked(basket, other) ? 1 : 0;
                }
            }
            return pairs;
        }

        int mixedByHandles() {
            int pairs = linkedPairs();
            for (int handle = 0; handle < HANDLES; handle++) {
                pairs -= linkedPairsOfHandle(handle);
            }
            return pairs;
        }

        int linkedPairsOfHandle(int handle) {
            int pairs = 0;
            for (int basket = 0; basket < count; basket++) {
                for (int other = basket + 1; other < count && handles[basket] == handle; other++) {
                    pairs += handles[other] == handle && linked(basket, other) ? 1 : 0;
                }
            }
            return pairs;
        }

        // ---- shapes

        int stepsSincePresentShape() {
            drawPresentShape();
            return shapes.stepsSince(presentShape);
        }

        void drawPresentShape() {
            int leastX = SKY_SIZE;
            int leastY = SKY_SIZE;
            for (int basket = 0; basket < count; basket++) {
                leastX = Math.min(leastX, xs[basket]);
                leastY = Math.min(leastY, ys[basket]);
            }
            for (int word = 0; word < Shapes.WORDS; word++) {
                presentShape[word] = 0;
            }
            for (int basket = 0; basket < count; basket++) {
                int row = ys[basket] - leastY;
                int word = row / Shapes.ROWS_IN_WORD;
                int bit = row % Shapes.ROWS_IN_WORD * SKY_SIZE + xs[basket] - leastX;
                if (word >= 0 && word < Shapes.WORDS) {
                    presentShape[word] |= 1L << bit;
                }
            }
        }
    }

    /** The formations of a flock, found in two ways. */
    private static final class Formations {
        // The formation of each basket, told by one basket of it.
        final int[] groups = new int[MOST_BASKETS];
        final int[] reached = new int[MOST_BASKETS];

        int countByGoing(Flock flock) {
            goThrough(flock);
            int formations = 0;
            for (int basket = 0; basket < flock.count; basket++) {
                formations += groups[basket] == basket ? 1 : 0;
            }
            return formations;
        }

        int lowestWith(Flock flock, int basket) {
            goThrough(flock);
            return flock.has(basket) ? groups[basket] : NOTHING;
        }

        int largest(Flock flock) {
            goThrough(flock);
            int most = 0;
            for (int basket = 0; basket < flock.count; basket++) {
                most = Math.max(most, sizeOfGroup(flock, basket));
            }
            return most;
        }

        int sizeOfGroup(Flock flock, int group) {
            int size = 0;
            for (int basket = 0; basket < flock.count; basket++) {
                size += groups[basket] == group ? 1 : 0;
            }
            return size;
        }

        // In ascending order, so that a formation is told by its lowest basket.
        void goThrough(Flock flock) {
            for (int basket = 0; basket < flock.count; basket++) {
                groups[basket] = NOTHING;
            }
            for (int basket = 0; basket < flock.count; basket++) {
                if (groups[basket] == NOTHING) {
                    goFrom(flock, basket);
                }
            }
        }

        void goFrom(Flock flock, int first) {
            groups[first] = first;
            reached[0] = first;
            int found = 1;
            for (int visited = 0; visited < found; visited++) {
                for (int other = 0; other < flock.count; other++) {
                    if (found < MOST_BASKETS && groups[other] == NOTHING && flock.linked(reached[visited], other)) {
                        groups[other] = first;
                        reached[found] = other;
                        found++;
                    }
                }
            }
        }

        int countByMerging(Flock flock) {
            for (int basket = 0; basket < flock.count; basket++) {
                groups[basket] = basket;
            }
            int formations = flock.count;
            for (int basket = 0; basket < flock.count; basket++) {
                for (int other = basket + 1; other < flock.count; other++) {
                    if (groups[basket] != groups[other] && flock.linked(basket, other)) {
                        merge(flock, groups[basket], groups[other]);
                        formations--;
                    }
                }
            }
            return formations;
        }

        void merge(Flock flock, int group, int merged) {
            for (int basket = 0; basket < flock.count; basket++) {
                if (groups[basket] == merged) {
                    groups[basket] = group;
                }
            }
        }
    }

    /** The states before the latest changes; the oldest one makes room for a new one. */
    private static final class History {
        final Flock[] befores = new Flock[MOST_UNDOS];
        int count = 0;
        int next = 0;

        History() {
            for (int i = 0; i < MOST_UNDOS; i++) {
                befores[i] = new Flock();
            }
        }

        void push(Flock flock) {
            Flock before = befores[next];
            if (before != null) {
                before.copyFrom(flock);
            }
            next = next + 1 < MOST_UNDOS ? next + 1 : 0;
            count = Math.min(count + 1, MOST_UNDOS);
        }

        void pop(Flock flock) {
            next = next > 0 ? next - 1 : MOST_UNDOS - 1;
            count--;
            Flock before = befores[next];
            if (before != null) {
                flock.copyFrom(before);
            }
        }

        void forget() {
            count = 0;
            next = 0;
        }
    }

    /** The command text and the commands that were found in it. */
    private static final class CommandText {
        static final int MOST_NUMBERS = 3;
        // No command is shorter than six characters.
        static final int MOST_COMMANDS = MOST_CHARACTERS / 6;

        final char[] characters = new char[MOST_CHARACTERS];
        int length = 0;
        final int[] kinds = new int[MOST_COMMANDS];
        final int[][] numbers = new int[MOST_COMMANDS][MOST_NUMBERS];
        int commands = 0;
        int position = 0;

        boolean isFull() {
            return length >= MOST_CHARACTERS;
        }

        int put(char character) {
            if (!isFull()) {
                characters[length] = character;
                length++;
            }
            return length;
        }

        void clear() {
            length = 0;
        }

        int kindOf(int command) {
            return command >= 0 && command < commands ? kinds[command] : NOTHING;
        }

        int number(int command, int index) {
            boolean exists = command >= 0 && command < commands && index >= 0 && index < MOST_NUMBERS;
            return exists ? numbers[command][index] : 0;
        }

        /** A number is a percent sign and a single digit a number sign; the rest stands for itself. */
        static String formOf(int kind) {
            switch (kind) {
                case ADD:
                    return "add %,% #";
                case JUMP:
                    return "jump # %,%";
                case HANDLE:
                    return "handle # #";
                case CLOUD:
                    return "cloud %,%";
                case CLEAR:
                    return "clear %,%";
                case TURN:
                    return "turn #";
                case GOAL:
                    return "goal %,%";
                case KEEP:
                    return "keep #";
                default:
                    return "step %";
            }
        }

        /** Returns the error position, or NOTHING if the text is a command text. */
        int parse() {
            position = 0;
            commands = 0;
            boolean more = true;
            for (int command = 0; more && command < MOST_COMMANDS; command++) {
                if (!parseCommand(command)) {
                    return position;
                }
                commands++;
                more = position < length && characters[position] == ';';
                if (more) {
                    position++;
                }
            }
            boolean isWhole = position >= length && !more;
            return isWhole ? NOTHING : position;
        }

        // The kind that gets furthest tells the error position; no two forms have a whole keyword in common.
        boolean parseCommand(int command) {
            int start = position;
            int furthest = start;
            for (int kind = 0; kind < KINDS; kind++) {
                position = start;
                if (matches(formOf(kind), command)) {
                    kinds[command] = kind;
                    return true;
                }
                furthest = Math.max(furthest, position);
            }
            position = furthest;
            return false;
        }

        boolean matches(String form, int command) {
            int found = 0;
            for (int i = 0; i < form.length(); i++) {
                char sign = form.charAt(i);
                boolean isNumber = sign == '%' || sign == '#';
                if (isNumber ? !isDigit() : !isCharacter(sign)) {
                    return false;
                }
                if (isNumber) {
                    int value = takeNumber(sign == '%');
                    if (found < MOST_NUMBERS) {
                        numbers[command][found] = value;
                        found++;
                    }
                } else {
                    position++;
                }
            }
            return true;
        }

        int takeNumber(boolean mayHaveTwoDigits) {
            int value = takeDigit();
            if (mayHaveTwoDigits && isDigit()) {
                value = value * 10 + takeDigit();
            }
            return value;
        }

        int takeDigit() {
            int digit = isDigit() ? characters[position] - '0' : 0;
            position++;
            return digit;
        }

        boolean isDigit() {
            return position < length && characters[position] >= '0' && characters[position] <= '9';
        }

        boolean isCharacter(char character) {
            return position < length && characters[position] == character;
        }
    }
}
