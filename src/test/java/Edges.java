import java.lang.annotation.Retention;
import java.lang.annotation.RetentionPolicy;
import java.lang.reflect.InvocationTargetException;
import java.lang.reflect.Method;
import java.util.Arrays;
import java.util.Comparator;
import java.util.function.Supplier;

/** What the tests of edges have in common: each test bears the sentence of the document that it is of. */
final class Edges {
    static final int LEAST = Integer.MIN_VALUE, MOST = Integer.MAX_VALUE;

    private static String sentence = "";

    private Edges() {
    }

    /** The promise's number (0 for Terms), and its words. */
    @Retention(RetentionPolicy.RUNTIME)
    @interface Of {
        String value();
    }

    /** Runs every test that bears a sentence. */
    static void run(Class<?> tests) throws IllegalAccessException, InvocationTargetException {
        Method[] methods = tests.getDeclaredMethods();
        Arrays.sort(methods, Comparator.comparing(Method::getName));
        for (Method method : methods) {
            Of of = method.getAnnotation(Of.class);
            if (of != null) {
                sentence = "'" + of.value() + "' (" + method.getName() + ")";
                method.invoke(null);
            }
        }
        Check.end(tests.getSimpleName());
    }

    static void due(String what, long got, long want) {
        Check.due(sentence + ": " + what, got, want);
    }

    static void taken(Supplier<MirrorClerks> made, long want, String call, int... numbers) {
        due(Check.told(call, numbers), Check.ask(made.get(), call, numbers), want);
    }

    /**
     * The call is refused so, and nothing is another by it. What digest() does not tell, the IMAGE, is found beside
     * a twin that was not asked.
     */
    static void refused(Supplier<MirrorClerks> made, int want, String call, int... numbers) {
        String told = Check.told(call, numbers);
        MirrorClerks x = made.get();
        MirrorClerks twin = made.get();
        long before = x.digest();
        due(told, Check.ask(x, call, numbers), want);
        due("digest() behind " + told, x.digest(), before);
        due("a twin's digest() beside " + told, twin.digest(), before);
        due("restore() behind " + told, x.restore(), twin.restore());
        due("digest() behind restore() behind " + told, x.digest(), twin.digest());
    }

    /** Refused, on the side of small numbers, and of great ones. */
    static int[] around(int firstTooSmall, int firstTooLarge) {
        return new int[] {firstTooSmall, firstTooSmall - 1, LEAST, firstTooLarge, firstTooLarge + 1, MOST};
    }

    /** The bits of some CELLS. */
    static int bits(int... cells) {
        int bits = 0;
        for (int cell : cells) {
            bits |= 1 << cell;
        }
        return bits;
    }
}
