import java.lang.reflect.InvocationTargetException;
import java.lang.reflect.Method;
import java.util.Arrays;
import java.util.List;
import java.util.NoSuchElementException;

/**
 * Calls that are refused. A test tells by letters all exceptions that apply; of these the one that the method
 * documents first is to come, and nothing is to have changed behind it. LanguageTest holds the order of the
 * documented exceptions against the document's rows.
 */
final class Refused {
    private static final String LETTERS = "basunm";
    private static final List<Class<?>> TYPES = List.of(IndexOutOfBoundsException.class,
            IllegalArgumentException.class, IllegalStateException.class, UnsupportedOperationException.class,
            NoSuchElementException.class, ArithmeticException.class);

    private Refused() {
    }

    /** b bounds, a argument, s state, u unsupported, n no such element, m arithmetic. */
    static void by(String applying, FairwayChancery x, String name, Object... args) {
        Method method = Driver.ours(name);
        String call = name + Arrays.toString(args);
        Class<?> due = first(applying, method, call);
        String before = Snapshot.of(x);
        String came = "nothing";
        boolean isDue = false;
        try {
            came = "nothing, but answered " + method.invoke(x, args);
        } catch (InvocationTargetException e) {
            Throwable cause = e.getCause();
            came = String.valueOf(cause);
            isDue = cause.getClass() == due && !"/ by zero".equals(cause.getMessage());
        } catch (IllegalAccessException e) {
            throw new AssertionError(e);
        }
        Check.yes(call + " threw " + came + ", due is " + due.getName(), isDue);
        Check.yes(call + " changed nothing", before.equals(Snapshot.of(x)));
    }

    private static Class<?> first(String applying, Method method, String call) {
        List<Class<?>> documented = Arrays.asList(method.getExceptionTypes());
        Class<?> first = null;
        for (char letter : applying.toCharArray()) {
            Class<?> type = TYPES.get(LETTERS.indexOf(letter));
            Check.yes(call + " documents " + type.getName(), documented.contains(type));
            if (first == null || documented.indexOf(type) < documented.indexOf(first)) {
                first = type;
            }
        }
        return first;
    }
}
