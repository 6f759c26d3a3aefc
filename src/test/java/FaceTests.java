import java.lang.reflect.Constructor;
import java.lang.reflect.Field;
import java.lang.reflect.Method;
import java.lang.reflect.Modifier;
import java.util.Set;
import java.util.TreeSet;
import java.util.regex.Matcher;
import java.util.regex.Pattern;

/** The public face, and those rules of LANGUAGE.md that can be seen without reading. */
final class FaceTests {
    private static final String FACE = """
            int addBasket(int,int,int) IllegalArgumentException IllegalStateException UnsupportedOperationException
            int jump(int,int,int) IndexOutOfBoundsException IllegalArgumentException UnsupportedOperationException
            int setHandle(int,int) IndexOutOfBoundsException IllegalArgumentException
            int basketCount()
            int xOf(int) IndexOutOfBoundsException
            int yOf(int) IndexOutOfBoundsException
            int handleOf(int) IndexOutOfBoundsException
            int basketAt(int,int) IllegalArgumentException NoSuchElementException
            int distance(int,int) IndexOutOfBoundsException
            int nearestTo(int) IndexOutOfBoundsException NoSuchElementException
            int refusalReason() NoSuchElementException
            int refusalDetail() NoSuchElementException
            int addCloud(int,int) IllegalArgumentException IllegalStateException UnsupportedOperationException
            int removeCloud(int,int) IllegalArgumentException NoSuchElementException
            boolean isCloud(int,int) IllegalArgumentException
            int cloudCount()
            int setTurnLength(int) IllegalArgumentException
            int turnLength()
            int leader() NoSuchElementException
            int leaderAfter(int) IllegalArgumentException NoSuchElementException
            int leaderAfterByCounting(int) IllegalArgumentException NoSuchElementException
            int setTarget(int,int) IllegalArgumentException NoSuchElementException
            int targetX() NoSuchElementException
            int targetY() NoSuchElementException
            int stepsToTarget() NoSuchElementException
            int setKeep(int) IllegalArgumentException
            int keep()
            int advance(int) IllegalArgumentException
            int stepCount()
            int movesOf(int) IndexOutOfBoundsException
            long moveTotal()
            int waitTotal()
            int formationCount()
            int formationCountByMerging()
            int largestFormation()
            int formationOf(int) IndexOutOfBoundsException
            int mixedPairs()
            int mixedPairsByHandles()
            int shapeCount()
            int differentShapes()
            int stepsSinceShape() NoSuchElementException
            int basketAtRank(int) NoSuchElementException
            int append(char) IllegalArgumentException IllegalStateException
            int run() IllegalArgumentException IllegalStateException
            int errorPosition() NoSuchElementException
            int failedCommand() NoSuchElementException
            int describeRow(int) IllegalArgumentException
            char lineAt(int) IndexOutOfBoundsException
            double meanDistance() ArithmeticException
            float mixedShare() ArithmeticException
            boolean isConsistent()
            int undo() IllegalStateException
            int save()
            int restore() IllegalStateException
            """;
    private static final String[] FORBIDDEN = {
        "\\bcatch\\b", "\\bfinally\\b", "\\bassert\\b", "\\bsynchronized\\b", "->", "::", "\\bstatic\\s*\\{",
        "\\bpackage\\b", "\\bthis\\s*\\.\\s*getClass", "\\bSystem\\s*\\.\\s*(?!arraycopy)", "\\bvar\\b",
        "\\bvolatile\\b", "\\bnative\\b", "\\bprotected\\b", "\\bequals\\b", "\\bhashCode\\b", "\\btoString\\b",
    };

    private FaceTests() {
    }

    static void run(String source) {
        members();
        rules(withoutComments(source));
    }

    private static void members() {
        Set<String> due = new TreeSet<>(FACE.lines().toList());
        Set<String> got = new TreeSet<>();
        Set<String> hidden = new TreeSet<>();
        Class<?> type = BasketFlock.class;
        for (Method method : type.getDeclaredMethods()) {
            if (Modifier.isPublic(method.getModifiers())) {
                got.add(written(method));
            } else {
                Check.holds(method + " is not private", Modifier.isPrivate(method.getModifiers()));
                hidden.add(method.getName());
            }
        }
        Check.is(1, "the public face", got, due);
        for (Method method : type.getDeclaredMethods()) {
            boolean doubled = Modifier.isPublic(method.getModifiers()) && hidden.contains(method.getName());
            Check.holds(method.getName() + " is a private method too", !doubled);
        }
        for (Field field : type.getDeclaredFields()) {
            Check.holds(field + " is not private", Modifier.isPrivate(field.getModifiers()));
            boolean changes = Modifier.isStatic(field.getModifiers()) && !Modifier.isFinal(field.getModifiers());
            Check.holds(field + " is static and not final", !changes);
        }
        Constructor<?>[] constructors = type.getDeclaredConstructors();
        Check.holds("there is one constructor", constructors.length == 1);
        Check.holds("the constructor is public", Modifier.isPublic(constructors[0].getModifiers()));
        Check.holds("the class is final", Modifier.isFinal(type.getModifiers()));
        Check.holds("the class is public", Modifier.isPublic(type.getModifiers()));
        inner(type);
    }

    private static void inner(Class<?> type) {
        for (Class<?> inside : type.getDeclaredClasses()) {
            int modifiers = inside.getModifiers();
            Check.holds(inside + " is static", Modifier.isStatic(modifiers));
            Check.holds(inside + " is hidden", !Modifier.isPublic(modifiers) && !Modifier.isProtected(modifiers));
            int fields = 0;
            for (Field field : inside.getDeclaredFields()) {
                fields += Modifier.isStatic(field.getModifiers()) ? 0 : 1;
            }
            Check.holds(inside + " has some twenty fields at most", fields <= 20);
        }
        Check.holds("there are some twelve classes at most", type.getDeclaredClasses().length <= 11);
    }

    private static String written(Method method) {
        StringBuilder written = new StringBuilder();
        written.append(method.getReturnType().getSimpleName()).append(' ').append(method.getName()).append('(');
        String comma = "";
        for (Class<?> parameter : method.getParameterTypes()) {
            written.append(comma).append(parameter.getSimpleName());
            comma = ",";
        }
        written.append(')');
        for (Class<?> exception : method.getExceptionTypes()) {
            written.append(' ').append(exception.getSimpleName());
        }
        return written.toString();
    }

    private static String withoutComments(String source) {
        return source.replaceAll("(?s)/\\*.*?\\*/", "").replaceAll("//[^\n]*", "");
    }

    private static void rules(String code) {
        for (String forbidden : FORBIDDEN) {
            Check.holds("the code holds " + forbidden, !Pattern.compile(forbidden).matcher(code).find());
        }
        Matcher imports = Pattern.compile("import [^;]*;").matcher(code);
        while (imports.find()) {
            Check.is(1, "an import", imports.group(), "import java.util.NoSuchElementException;");
        }
        Check.holds("the code is ASCII", code.chars().allMatch(sign -> sign < 127));
    }
}
