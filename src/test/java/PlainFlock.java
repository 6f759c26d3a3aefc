import java.util.ArrayList;
import java.util.HashSet;
import java.util.List;
import java.util.NoSuchElementException;
import java.util.Set;
import java.util.TreeSet;
import java.util.function.Supplier;
import java.util.regex.Matcher;
import java.util.regex.Pattern;

/** The document once more, written with the Java library and in other ways, to compare answers with. */
public final class PlainFlock {
    private static final String CELL = "([0-9][0-9]?),([0-9][0-9]?)";
    private static final String COMMAND = ("(?:add C ([0-9])|jump ([0-9]) C|handle ([0-9]) ([0-9])|cloud C|clear C"
            + "|turn ([0-9])|goal C|keep ([0-9])|step ([0-9][0-9]?))").replace("C", CELL);
    private static final Pattern TEXT = Pattern.compile(COMMAND + "(?:;" + COMMAND + ")*");
    private static final int[][] WAYS = {{0, 1}, {1, 0}, {0, -1}, {-1, 0}};

    private static final class Basket {
        int x;
        int y;
        int handle;
        int moves;

        Basket copy() {
            Basket copy = new Basket();
            copy.x = x;
            copy.y = y;
            copy.handle = handle;
            copy.moves = moves;
            return copy;
        }
    }

    private static final class State {
        List<Basket> baskets = new ArrayList<>();
        Set<List<Integer>> clouds = new HashSet<>();
        List<Set<List<Integer>>> shapes = new ArrayList<>();
        List<Integer> target = null;
        int leader = 0;
        int led = 0;
        int turn = 4;
        int keep = 3;
        int steps = 0;
        int waits = 0;

        State copy() {
            State copy = new State();
            for (Basket basket : baskets) {
                copy.baskets.add(basket.copy());
            }
            copy.clouds = new HashSet<>(clouds);
            copy.shapes = new ArrayList<>(shapes);
            copy.target = target;
            copy.leader = leader;
            copy.led = led;
            copy.turn = turn;
            copy.keep = keep;
            copy.steps = steps;
            copy.waits = waits;
            return copy;
        }
    }

    private State s = new State();
    private State saved = null;
    private final List<State> undos = new ArrayList<>();
    private boolean isRunning = false;
    private String text = "";
    private String line = "";
    private int error = -1;
    private int failed = -1;
    private int reason = 0;
    private int detail = 0;

    private static void unless(boolean good, Supplier<RuntimeException> otherwise) {
        if (!good) {
            throw otherwise.get();
        }
    }

    private static boolean in(int number, int least, int most) {
        return least <= number && number <= most;
    }

    private void demandCell(int x, int y) {
        unless(in(x, 0, 11) && in(y, 0, 11), IllegalArgumentException::new);
    }

    private Basket basket(int basket) {
        unless(in(basket, 0, s.baskets.size() - 1), IndexOutOfBoundsException::new);
        return s.baskets.get(basket);
    }

    private void demandBaskets() {
        unless(!s.baskets.isEmpty(), NoSuchElementException::new);
    }

    private void changing() {
        if (!isRunning) {
            undos.add(s.copy());
            if (undos.size() > 8) {
                undos.remove(0);
            }
        }
    }

    private static int apart(int x, int y, int otherX, int otherY) {
        return Math.abs(x - otherX) + Math.abs(y - otherY);
    }

    private int apart(int basket, int other) {
        Basket one = s.baskets.get(basket);
        Basket two = s.baskets.get(other);
        return apart(one.x, one.y, two.x, two.y);
    }

    private TreeSet<Integer> touched(int mover, int x, int y) {
        TreeSet<Integer> touched = new TreeSet<>();
        for (int i = 0; i < s.baskets.size(); i++) {
            if (i != mover && apart(s.baskets.get(i).x, s.baskets.get(i).y, x, y) <= 1) {
                touched.add(i);
            }
        }
        return touched;
    }

    private void place(int mover, int x, int y) {
        if (s.clouds.contains(List.of(x, y))) {
            reason = 1;
            detail = s.clouds.size();
            throw new UnsupportedOperationException();
        }
        TreeSet<Integer> touched = touched(mover, x, y);
        if (!touched.isEmpty()) {
            reason = 2;
            detail = touched.first();
            throw new UnsupportedOperationException();
        }
    }

    public int addBasket(int x, int y, int handle) {
        demandCell(x, y);
        unless(in(handle, 0, 2), IllegalArgumentException::new);
        unless(s.baskets.size() < 10, IllegalStateException::new);
        place(-1, x, y);
        changing();
        Basket basket = new Basket();
        basket.x = x;
        basket.y = y;
        basket.handle = handle;
        s.baskets.add(basket);
        return s.baskets.indexOf(basket);
    }

    public int jump(int basket, int x, int y) {
        Basket jumping = basket(basket);
        demandCell(x, y);
        place(basket, x, y);
        changing();
        int distance = apart(jumping.x, jumping.y, x, y);
        jumping.x = x;
        jumping.y = y;
        return distance;
    }

    public int setHandle(int basket, int handle) {
        int before = basket(basket).handle;
        unless(in(handle, 0, 2), IllegalArgumentException::new);
        changing();
        basket(basket).handle = handle;
        return before;
    }

    public int basketCount() {
        return s.baskets.size();
    }

    public int xOf(int basket) {
        return basket(basket).x;
    }

    public int yOf(int basket) {
        return basket(basket).y;
    }

    public int handleOf(int basket) {
        return basket(basket).handle;
    }

    public int movesOf(int basket) {
        return basket(basket).moves;
    }

    public int basketAt(int x, int y) {
        demandCell(x, y);
        for (Basket basket : s.baskets) {
            if (basket.x == x && basket.y == y) {
                return s.baskets.indexOf(basket);
            }
        }
        throw new NoSuchElementException();
    }

    public int distance(int basket, int other) {
        basket(basket);
        basket(other);
        return apart(basket, other);
    }

    public int nearestTo(int basket) {
        basket(basket);
        for (int distance = 1; distance <= 22; distance++) {
            for (int other = 0; other < s.baskets.size(); other++) {
                if (apart(basket, other) == distance) {
                    return other;
                }
            }
        }
        throw new NoSuchElementException();
    }

    public int refusalReason() {
        unless(reason != 0, NoSuchElementException::new);
        return reason;
    }

    public int refusalDetail() {
        unless(reason != 0, NoSuchElementException::new);
        return detail;
    }

    public int addCloud(int x, int y) {
        demandCell(x, y);
        unless(s.clouds.size() < 8 && !s.clouds.contains(List.of(x, y)), IllegalStateException::new);
        for (Basket basket : s.baskets) {
            unless(basket.x != x || basket.y != y, UnsupportedOperationException::new);
        }
        changing();
        s.clouds.add(List.of(x, y));
        return s.clouds.size();
    }

    public int removeCloud(int x, int y) {
        demandCell(x, y);
        unless(s.clouds.contains(List.of(x, y)), NoSuchElementException::new);
        changing();
        s.clouds.remove(List.of(x, y));
        return s.clouds.size();
    }

    public boolean isCloud(int x, int y) {
        demandCell(x, y);
        return s.clouds.contains(List.of(x, y));
    }

    public int cloudCount() {
        return s.clouds.size();
    }

    public int setTurnLength(int steps) {
        unless(in(steps, 2, 9), IllegalArgumentException::new);
        changing();
        int before = s.turn;
        s.turn = steps;
        s.led = 0;
        return before;
    }

    public int turnLength() {
        return s.turn;
    }

    public int leader() {
        demandBaskets();
        return s.leader;
    }

    public int leaderAfter(int steps) {
        unless(in(steps, 0, 99), IllegalArgumentException::new);
        demandBaskets();
        State ahead = s.copy();
        for (int i = 0; i < steps; i++) {
            passLead(ahead);
        }
        return ahead.leader;
    }

    public int leaderAfterByCounting(int steps) {
        return leaderAfter(steps);
    }

    private static void passLead(State state) {
        state.led++;
        if (state.led == state.turn) {
            state.led = 0;
            state.leader = (state.leader + 1) % state.baskets.size();
        }
    }

    public int setTarget(int x, int y) {
        demandCell(x, y);
        demandBaskets();
        changing();
        s.target = List.of(x, y);
        return apart(s.baskets.get(s.leader).x, s.baskets.get(s.leader).y, x, y);
    }

    public int targetX() {
        unless(s.target != null, NoSuchElementException::new);
        return s.target.get(0);
    }

    public int targetY() {
        unless(s.target != null, NoSuchElementException::new);
        return s.target.get(1);
    }

    private boolean isOnTarget() {
        Basket leader = s.baskets.get(s.leader);
        return s.target.equals(List.of(leader.x, leader.y));
    }

    public int stepsToTarget() {
        unless(s.target != null, NoSuchElementException::new);
        State before = s.copy();
        try {
            for (int steps = 0; steps <= 60; steps++) {
                if (isOnTarget()) {
                    return steps;
                }
                step();
            }
            throw new NoSuchElementException();
        } finally {
            s = before;
        }
    }

    public int setKeep(int keep) {
        unless(in(keep, 2, 6), IllegalArgumentException::new);
        changing();
        int before = s.keep;
        s.keep = keep;
        return before;
    }

    public int keep() {
        return s.keep;
    }

    public int advance(int steps) {
        unless(in(steps, 1, 20), IllegalArgumentException::new);
        changing();
        long before = moveTotal();
        for (int i = 0; i < steps; i++) {
            step();
        }
        return (int) (moveTotal() - before);
    }

    private void step() {
        if (!s.baskets.isEmpty()) {
            if (s.target != null && !isOnTarget()) {
                stepOfLeader();
            }
            for (int basket = 0; basket < s.baskets.size(); basket++) {
                if (basket != s.leader && apart(basket, s.leader) > s.keep) {
                    stepOfOther(basket);
                }
            }
            s.shapes.add(shape());
            if (s.shapes.size() > 16) {
                s.shapes.remove(0);
            }
        }
        s.steps++;
        if (!s.baskets.isEmpty()) {
            passLead(s);
        }
    }

    private void stepOfLeader() {
        Basket leader = s.baskets.get(s.leader);
        int dx = s.target.get(0) - leader.x;
        int dy = s.target.get(1) - leader.y;
        int[] alongX = {Integer.signum(dx), 0};
        int[] alongY = {0, Integer.signum(dy)};
        List<int[]> ways = Math.abs(dx) >= Math.abs(dy) ? List.of(alongX, alongY) : List.of(alongY, alongX);
        for (int[] way : ways) {
            if (way[0] + way[1] != 0 && go(s.leader, way)) {
                return;
            }
        }
        s.waits++;
    }

    private void stepOfOther(int basket) {
        Basket other = s.baskets.get(basket);
        Basket leader = s.baskets.get(s.leader);
        for (int[] way : WAYS) {
            boolean nearer = apart(other.x + way[0], other.y + way[1], leader.x, leader.y) < apart(basket, s.leader);
            if (nearer && go(basket, way)) {
                return;
            }
        }
        s.waits++;
    }

    private boolean go(int basket, int[] way) {
        Basket going = s.baskets.get(basket);
        int x = going.x + way[0];
        int y = going.y + way[1];
        if (!in(x, 0, 11) || !in(y, 0, 11) || s.clouds.contains(List.of(x, y)) || !touched(basket, x, y).isEmpty()) {
            return false;
        }
        going.x = x;
        going.y = y;
        going.moves++;
        return true;
    }

    public int stepCount() {
        return s.steps;
    }

    public long moveTotal() {
        return s.baskets.stream().mapToLong(basket -> basket.moves).sum();
    }

    public int waitTotal() {
        return s.waits;
    }

    private List<TreeSet<Integer>> formations() {
        List<TreeSet<Integer>> formations = new ArrayList<>();
        for (int basket = 0; basket < s.baskets.size(); basket++) {
            TreeSet<Integer> joined = new TreeSet<>(Set.of(basket));
            for (TreeSet<Integer> formation : new ArrayList<>(formations)) {
                int last = basket;
                if (formation.stream().anyMatch(other -> apart(other, last) <= s.keep)) {
                    joined.addAll(formation);
                    formations.remove(formation);
                }
            }
            formations.add(joined);
        }
        return formations;
    }

    public int formationCount() {
        return formations().size();
    }

    public int formationCountByMerging() {
        return formations().size();
    }

    public int largestFormation() {
        return formations().stream().mapToInt(Set::size).max().orElse(0);
    }

    public int formationOf(int basket) {
        basket(basket);
        for (TreeSet<Integer> formation : formations()) {
            if (formation.contains(basket)) {
                return formation.first();
            }
        }
        throw new AssertionError();
    }

    private int[] linkedAndMixed() {
        int[] pairs = new int[2];
        for (int basket = 0; basket < s.baskets.size(); basket++) {
            for (int other = 0; other < basket; other++) {
                if (apart(basket, other) <= s.keep) {
                    pairs[0]++;
                    pairs[1] += s.baskets.get(basket).handle == s.baskets.get(other).handle ? 0 : 1;
                }
            }
        }
        return pairs;
    }

    public int mixedPairs() {
        return linkedAndMixed()[1];
    }

    public int mixedPairsByHandles() {
        return linkedAndMixed()[1];
    }

    private Set<List<Integer>> shape() {
        int x = s.baskets.stream().mapToInt(basket -> basket.x).min().orElse(0);
        int y = s.baskets.stream().mapToInt(basket -> basket.y).min().orElse(0);
        Set<List<Integer>> shape = new HashSet<>();
        for (Basket basket : s.baskets) {
            shape.add(List.of(basket.x - x, basket.y - y));
        }
        return shape;
    }

    public int shapeCount() {
        return s.shapes.size();
    }

    public int differentShapes() {
        return new HashSet<>(s.shapes).size();
    }

    public int stepsSinceShape() {
        int latest = s.shapes.lastIndexOf(shape());
        unless(latest >= 0, NoSuchElementException::new);
        return s.shapes.size() - 1 - latest;
    }

    public int basketAtRank(int rank) {
        unless(in(rank, 0, s.baskets.size() - 1), NoSuchElementException::new);
        List<Integer> order = new ArrayList<>();
        for (int basket = 0; basket < s.baskets.size(); basket++) {
            order.add(basket);
        }
        // The sort is stable, so that a tie leaves the lower number first.
        order.sort((one, other) -> apart(one, s.leader) - apart(other, s.leader));
        return order.get(rank);
    }

    public int append(char character) {
        unless(in(character, 32, 126), IllegalArgumentException::new);
        unless(text.length() < 60, IllegalStateException::new);
        text += character;
        return text.length();
    }

    public int run() {
        String commands = text;
        text = "";
        if (!TEXT.matcher(commands).matches()) {
            error = errorPosition(commands);
            throw new IllegalArgumentException();
        }
        State before = s.copy();
        String[] parts = commands.split(";");
        isRunning = true;
        for (int i = 0; i < parts.length; i++) {
            try {
                carryOut(parts[i].split("[ ,]"));
            } catch (RuntimeException thrown) {
                isRunning = false;
                s = before;
                failed = i;
                throw new IllegalStateException();
            }
        }
        isRunning = false;
        State after = s;
        s = before;
        changing();
        s = after;
        return parts.length;
    }

    private void carryOut(String[] words) {
        int a = Integer.parseInt(words[1]);
        int b = words.length > 2 ? Integer.parseInt(words[2]) : 0;
        int c = words.length > 3 ? Integer.parseInt(words[3]) : 0;
        switch (words[0]) {
            case "add" -> addBasket(a, b, c);
            case "jump" -> jump(a, b, c);
            case "handle" -> setHandle(a, b);
            case "cloud" -> addCloud(a, b);
            case "clear" -> removeCloud(a, b);
            case "turn" -> setTurnLength(a);
            case "goal" -> setTarget(a, b);
            case "keep" -> setKeep(a);
            default -> advance(a);
        }
    }

    /** The first prefix that no command text begins with ends with the character that is wrong. */
    private static int errorPosition(String commands) {
        for (int length = 1; length <= commands.length(); length++) {
            Matcher matcher = TEXT.matcher(commands.substring(0, length));
            if (!matcher.matches() && !matcher.hitEnd()) {
                return length - 1;
            }
        }
        return commands.length();
    }

    public int errorPosition() {
        unless(error >= 0, NoSuchElementException::new);
        return error;
    }

    public int failedCommand() {
        unless(failed >= 0, NoSuchElementException::new);
        return failed;
    }

    public int describeRow(int y) {
        demandCell(0, y);
        line = "";
        for (int x = 0; x < 12; x++) {
            String sign = s.clouds.contains(List.of(x, y)) ? "#" : ".";
            for (int basket = 0; basket < s.baskets.size(); basket++) {
                boolean here = s.baskets.get(basket).x == x && s.baskets.get(basket).y == y;
                sign = here ? Integer.toString(basket) : sign;
            }
            line += sign;
        }
        return line.length();
    }

    public char lineAt(int index) {
        unless(in(index, 0, line.length() - 1), IndexOutOfBoundsException::new);
        return line.charAt(index);
    }

    public double meanDistance() {
        unless(s.baskets.size() > 1, ArithmeticException::new);
        double sum = 0;
        for (int basket = 0; basket < s.baskets.size(); basket++) {
            sum += apart(basket, s.leader);
        }
        return sum / (s.baskets.size() - 1);
    }

    public float mixedShare() {
        int[] pairs = linkedAndMixed();
        unless(pairs[0] > 0, ArithmeticException::new);
        return (float) pairs[1] / pairs[0];
    }

    public boolean isConsistent() {
        return true;
    }

    public int undo() {
        unless(!undos.isEmpty(), IllegalStateException::new);
        s = undos.remove(undos.size() - 1);
        return undos.size();
    }

    public int save() {
        saved = s.copy();
        return s.baskets.size();
    }

    public int restore() {
        unless(saved != null, IllegalStateException::new);
        s = saved.copy();
        undos.clear();
        return s.baskets.size();
    }
}
