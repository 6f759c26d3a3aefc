import java.util.List;
import java.util.NoSuchElementException;
import java.util.function.Consumer;
import java.util.function.IntFunction;
import java.util.function.Supplier;

/** What the tests of single sentences share: each names its promise (0: the terms) and quotes its sentence. */
abstract class SentenceTests {
    static final Class<IllegalArgumentException> ARGUMENT = IllegalArgumentException.class;
    static final Class<IllegalStateException> STATE = IllegalStateException.class;
    static final Class<IndexOutOfBoundsException> INDEX = IndexOutOfBoundsException.class;
    static final Class<UnsupportedOperationException> UNSUPPORTED = UnsupportedOperationException.class;
    static final Class<NoSuchElementException> NONE = NoSuchElementException.class;
    static final Class<ArithmeticException> ARITHMETIC = ArithmeticException.class;

    private static Sentences document = null;
    private static int promise = 0;
    private static String sentence = "";
    private static int cases = 0;

    static void compareWith(Sentences sentences) {
        document = sentences;
    }

    static void test(int number, String quote, Runnable body) {
        promise = number;
        sentence = quote;
        cases = 0;
        find(quote);
        try {
            body.run();
        } catch (RuntimeException thrown) {
            Check.fail(name("broke off with " + thrown));
        }
        Check.holds(name("has no case"), cases > 0);
    }

    private static void find(String quote) {
        if (document == null) {
            return;
        }
        List<String> found = document.with(promise, quote);
        Check.holds(name("is found " + found.size() + " times in the document"), found.size() == 1);
        for (String whole : found) {
            document.test(promise, whole);
        }
    }

    private static String name(String what) {
        return "promise " + promise + " " + caseName(what);
    }

    private static String caseName(String what) {
        return "\"" + sentence + "\": " + what;
    }

    static void is(String what, Object got, Object due) {
        cases++;
        Check.is(promise, caseName(what), got, due);
    }

    static void fails(Class<? extends Exception> due, String what, Check.Call call) {
        cases++;
        Check.fails(promise, caseName(what), due, call);
    }

    /** The call fails with numbers just outside of the range and far outside. */
    static void failsOutside(Class<? extends Exception> due, String what, int least, int most, IntFunction<?> call) {
        for (int number : new int[] {least - 1, most + 1, Integer.MIN_VALUE, Integer.MAX_VALUE}) {
            fails(due, what + " " + number, () -> call.apply(number));
        }
    }

    /** The call answers each number of the range with the number itself. */
    static void keepsEach(String what, int least, int most, IntFunction<?> call) {
        for (int number = least; number <= most; number++) {
            is(what + " " + number, call.apply(number), number);
        }
    }

    /** Does the call on one of two flocks that were made alike, and then looks for anything that differs. */
    static void leavesNoTrace(String what, Supplier<BasketFlock> maker, Consumer<BasketFlock> call) {
        BasketFlock called = maker.get();
        BasketFlock twin = maker.get();
        String thrown = "";
        try {
            call.accept(called);
        } catch (RuntimeException exception) {
            thrown = " (" + exception.getClass().getSimpleName() + ")";
        }
        is(what + thrown + " leaves no trace", Flocks.everything(called), Flocks.everything(twin));
        is(what + thrown + " leaves no trace later", Flocks.aftermath(called), Flocks.aftermath(twin));
    }
}
