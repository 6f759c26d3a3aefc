import java.lang.reflect.InvocationTargetException;
import java.lang.reflect.Method;
import java.util.Arrays;
import java.util.HashMap;
import java.util.Map;

/** Long runs of calls, chosen by a fixed rule, on the class and on PlainFlock: both must answer the same. */
final class WalkTests {
    private static final int WALKS = 100;
    private static final int CALLS = 512;
    private static final String[] READINGS = {
        "basketCount", "refusalReason", "refusalDetail", "cloudCount", "turnLength", "leader", "targetX", "targetY",
        "keep", "stepCount", "moveTotal", "waitTotal", "formationCount", "formationCountByMerging",
        "largestFormation", "mixedPairs", "mixedPairsByHandles", "shapeCount", "differentShapes", "stepsSinceShape",
        "errorPosition", "failedCommand", "meanDistance", "mixedShare", "isConsistent", "stepsToTarget",
    };
    private static final String[] READINGS_OF_BASKET = {
        "xOf", "yOf", "handleOf", "movesOf", "nearestTo", "formationOf", "basketAtRank",
    };
    private static final String[] WORDS = {
        "add 5,5 1", "jump 0 11,11", "handle 1 2", "cloud 3,3", "clear 3,3", "turn 3", "goal 9,0", "keep 2", "step 4",
    };
    private static final Map<String, Method> PLAIN = methods(PlainFlock.class);
    private static final Map<String, Method> BUILT = methods(BasketFlock.class);

    private final BasketFlock built = new BasketFlock();
    private final PlainFlock plain = new PlainFlock();
    private final int walk;
    private final StringBuilder trace = new StringBuilder();
    private long seed;
    private boolean same = true;

    private WalkTests(int walk) {
        this.walk = walk;
        this.seed = walk * 7919L + 17;
    }

    static void run() {
        for (int walk = 1; walk <= WALKS; walk++) {
            WalkTests tests = new WalkTests(walk);
            for (int call = 0; call < CALLS && tests.same; call++) {
                tests.oneCall();
                tests.readAll();
            }
            Check.holds("walk " + walk + " went astray", tests.same);
        }
    }

    private static Map<String, Method> methods(Class<?> type) {
        Map<String, Method> methods = new HashMap<>();
        for (Method method : type.getMethods()) {
            methods.put(method.getName(), method);
        }
        return methods;
    }

    private int next(int bound) {
        seed = seed * 6364136223846793005L + 1442695040888963407L;
        return (int) ((seed >>> 33) % bound);
    }

    private int coordinate() {
        return next(12) == 0 ? next(2) * 13 - 1 : next(12);
    }

    private int nearby(int least, int most) {
        return least - 1 + next(most - least + 3);
    }

    private int basket() {
        return next(10) == 0 ? nearby(0, 10) : next(Math.max(1, plain.basketCount()));
    }

    private void oneCall() {
        switch (next(16)) {
            case 0, 1 -> call("addBasket", coordinate(), coordinate(), next(3) == 0 ? nearby(0, 2) : next(3));
            case 2 -> call("jump", basket(), coordinate(), coordinate());
            case 3 -> call("setHandle", basket(), nearby(0, 2));
            case 4 -> call("addCloud", coordinate(), coordinate());
            case 5 -> removeCloud();
            case 6 -> call("setTurnLength", nearby(2, 9));
            case 7 -> call("setTarget", coordinate(), coordinate());
            case 8 -> call("setKeep", nearby(2, 6));
            case 9, 10 -> call("advance", next(8) == 0 ? nearby(1, 20) : 1 + next(5));
            case 11, 12 -> runText();
            case 13 -> call("undo");
            case 14 -> call(next(3) == 0 ? "restore" : "save");
            default -> smallReadings();
        }
    }

    private void removeCloud() {
        for (int tries = 0; tries < 200; tries++) {
            int x = next(12);
            int y = next(12);
            if (plain.isCloud(x, y)) {
                call("removeCloud", x, y);
                return;
            }
        }
        call("removeCloud", coordinate(), coordinate());
    }

    private void runText() {
        StringBuilder text = new StringBuilder();
        int commands = next(3) == 0 ? 8 : 1 + next(3);
        for (int i = 0; i < commands; i++) {
            text.append(i > 0 ? ";" : "").append(command());
        }
        if (next(4) == 0 && text.length() > 0) {
            int at = next(text.length());
            switch (next(4)) {
                case 0 -> text.deleteCharAt(at);
                case 1 -> text.insert(at, (char) (32 + next(95)));
                case 2 -> text.setCharAt(at, text.charAt(next(text.length())));
                default -> text.setLength(at);
            }
        }
        for (int i = 0; i < text.length() && i < 61; i++) {
            call("append", text.charAt(i));
        }
        call("run");
    }

    private String command() {
        String word = WORDS[next(WORDS.length)];
        StringBuilder command = new StringBuilder(word.substring(0, word.indexOf(' ')));
        for (int i = command.length(); i < word.length(); i++) {
            char sign = word.charAt(i);
            command.append(sign >= '0' && sign <= '9' ? Integer.toString(next(5)) : Character.toString(sign));
        }
        return command.toString();
    }

    private void smallReadings() {
        call("basketAt", coordinate(), coordinate());
        call("isCloud", coordinate(), coordinate());
        call("distance", basket(), basket());
        call("describeRow", coordinate());
        for (int index = -1; index <= 12; index++) {
            call("lineAt", index);
        }
        call("leaderAfter", nearby(0, 99));
        call("leaderAfterByCounting", nearby(0, 99));
        call("append", (char) next(200));
    }

    private void readAll() {
        int length = trace.length();
        for (String reading : READINGS) {
            call(reading);
        }
        for (String reading : READINGS_OF_BASKET) {
            for (int basket = -1; basket <= plain.basketCount(); basket++) {
                call(reading, basket);
            }
        }
        for (int steps = 0; steps <= 12; steps++) {
            call("leaderAfter", steps);
        }
        trace.setLength(length);
    }

    private void call(String name, Object... arguments) {
        if (!same) {
            return;
        }
        String due = outcome(PLAIN.get(name), plain, arguments);
        String got = outcome(BUILT.get(name), built, arguments);
        String written = name + Arrays.toString(arguments);
        trace.append(written).append(" -> ").append(due).append('\n');
        if (!got.equals(due)) {
            same = false;
            System.out.print(trace);
            System.out.println("walk " + walk + ": " + written + " answered " + got + ", due is " + due);
        }
    }

    private static String outcome(Method method, Object target, Object[] arguments) {
        try {
            return String.valueOf(method.invoke(target, arguments));
        } catch (InvocationTargetException thrown) {
            return "throws." + thrown.getCause().getClass().getSimpleName();
        } catch (IllegalAccessException unreachable) {
            throw new IllegalStateException(unreachable);
        }
    }
}
