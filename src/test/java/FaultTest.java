import java.lang.reflect.InvocationTargetException;
import java.lang.reflect.Method;
import java.util.Arrays;
import java.util.HashSet;
import java.util.List;
import java.util.Map;
import java.util.Random;
import java.util.Set;
import java.util.TreeMap;

/** Any arguments in any state: only documented exceptions come, none of the machine's, and they change nothing. */
public final class FaultTest {
    private static final int RUNS = 600;
    private static final Set<String> QUESTIONS = new HashSet<>(List.of("kindAt", "gets", "holeOn", "away", "odds",
            "point", "state", "lie", "strokes", "penalties", "isOut", "score", "up", "isMatchOver", "total",
            "stableford", "parPlay", "together", "skins", "rank", "isAhead", "cut", "difference", "index",
            "lowIndex", "checksum", "penaltyShare", "meanScore", "isSound"));

    public static void main(String[] args) throws IllegalAccessException {
        Map<String, Integer> thrown = new TreeMap<>();
        int calls = 0;
        for (int seed = 0; seed < RUNS; seed++) {
            Random random = new Random(seed);
            FairwayChancery x = new FairwayChancery();
            for (int i = 0; i < Driver.MOST_CALLS; i++) {
                calls++;
                call(x, random, thrown, "run " + seed + ", call " + i);
            }
        }
        Check.yes("calls were made", calls == RUNS * Driver.MOST_CALLS);
        for (String name : Driver.names()) {
            for (Class<?> due : Driver.ours(name).getExceptionTypes()) {
                // A hole without a point is rare here; ReliefTest has it.
                boolean isRare = due == java.util.NoSuchElementException.class
                        && (name.equals("point") || name.equals("free"));
                Check.yes(name + " throws " + due.getName(),
                        isRare || thrown.containsKey(name + " " + due.getName()));
            }
        }
        Check.end();
    }

    /** A call early in a run mostly builds the course, so that later ones find holes, players and rounds. */
    private static String anyName(FairwayChancery x, Random random) {
        String[] often = {"hole", "player", "area", "begin", "stroke", "stroke", "pickUp", "nextHole", "search",
            "sign", "post", "suspend", "wrongPlace", "move"};
        List<String> names = Driver.names();
        return random.nextInt(3) > 0 ? often[random.nextInt(often.length)] : names.get(random.nextInt(names.size()));
    }

    private static void call(FairwayChancery x, Random random, Map<String, Integer> thrown, String when)
            throws IllegalAccessException {
        Method method = Driver.ours(anyName(x, random));
        Object[] args = new Object[method.getParameterCount()];
        for (int i = 0; i < args.length; i++) {
            args[i] = any(method, method.getParameterTypes()[i], i, random);
        }
        String before = Snapshot.of(x);
        String told = when + ": " + method.getName() + Arrays.toString(args);
        boolean isChanging = !QUESTIONS.contains(method.getName());
        try {
            method.invoke(x, args);
        } catch (InvocationTargetException e) {
            isChanging = false;
            Throwable cause = e.getCause();
            thrown.merge(method.getName() + " " + cause.getClass().getName(), 1, Integer::sum);
            if (!Arrays.asList(method.getExceptionTypes()).contains(cause.getClass())
                    || "/ by zero".equals(cause.getMessage())) {
                Check.tell(told + " threw " + cause);
            }
        }
        if (!isChanging && !before.equals(Snapshot.of(x))) {
            Check.tell(told + " changed something");
        }
    }

    private static Object any(Method method, Class<?> type, int place, Random random) {
        if (type == boolean.class) {
            return random.nextBoolean();
        }
        if (type == char.class) {
            String all = method.getName().equals("begin") || method.getName().equals("concede") ? "sm"
                    : ".gbdyrwpocflsxhumnek";
            return random.nextInt(20) == 0 ? (char) random.nextInt(65536) : all.charAt(random.nextInt(all.length()));
        }
        switch (random.nextInt(40)) {
            case 0:
                return random.nextInt();
            case 1:
                return random.nextBoolean() ? Integer.MAX_VALUE : Integer.MIN_VALUE;
            case 2:
                return random.nextInt(3) - 2;
            default:
                break;
        }
        boolean isCount = place == 0 && !method.getName().equals("hole");
        int wide = method.getName().equals("post") && place > 0 ? 200 : 20;
        return isCount ? random.nextInt(3) : random.nextInt(wide) + (wide == 200 ? 40 : 0);
    }
}
