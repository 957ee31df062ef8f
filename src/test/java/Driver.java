import java.lang.reflect.InvocationTargetException;
import java.lang.reflect.Method;
import java.util.ArrayList;
import java.util.Arrays;
import java.util.List;
import java.util.Map;
import java.util.Random;
import java.util.TreeMap;

/** Random runs of calls: on a FairwayChancery and a PlainLaw at once, with arguments that often are allowed. */
final class Driver {
    static final int MOST_CALLS = 512;

    private static final Map<String, Method> OURS = methods(FairwayChancery.class);
    private static final Map<String, Method> THEIRS = methods(PlainLaw.class);

    final Random random;
    final FairwayChancery ours = new FairwayChancery();
    final PlainLaw theirs = new PlainLaw();
    final List<String> told = new ArrayList<>();
    final List<int[]> cups = new ArrayList<>();
    final List<int[]> tees = new ArrayList<>();
    int players;
    int calls;
    String fault;
    /** How often each method answered, and how often it threw each exception. */
    final Map<String, Integer> seen;

    Driver(long seed, Map<String, Integer> seen) {
        random = new Random(seed);
        this.seen = seen;
    }

    private static Map<String, Method> methods(Class<?> of) {
        Map<String, Method> all = new TreeMap<>();
        for (Method m : of.getDeclaredMethods()) {
            if (java.lang.reflect.Modifier.isPublic(m.getModifiers())) {
                m.setAccessible(true);
                all.put(m.getName(), m);
            }
        }
        return all;
    }

    static List<String> names() {
        return new ArrayList<>(OURS.keySet());
    }

    static Method ours(String name) {
        return OURS.get(name);
    }

    static String answer(Object of, Method method, Object... args) {
        try {
            return String.valueOf(method.invoke(of, args));
        } catch (InvocationTargetException e) {
            return "throws." + e.getCause().getClass().getName();
        } catch (IllegalAccessException e) {
            throw new AssertionError(e);
        }
    }

    /** Calls both, and compares; false behind the first fault and behind the last call that counts. */
    boolean call(String name, Object... args) {
        if (fault != null || calls >= MOST_CALLS) {
            return false;
        }
        calls++;
        String got = answer(ours, OURS.get(name), args);
        String due = answer(theirs, THEIRS.get(name), args);
        told.add(name + Arrays.toString(args) + " -> " + got);
        seen.merge(got.startsWith("throws.") ? name + " " + got : name, 1, Integer::sum);
        if (!got.equals(due)) {
            fault = "due is " + due;
        }
        return fault == null;
    }

    int below(int end) {
        return random.nextInt(end);
    }

    boolean oneIn(int many) {
        return random.nextInt(many) == 0;
    }

    int anyPlayer() {
        return oneIn(60) ? below(9) - 1 : below(Math.max(1, players));
    }

    int[] around(int[] cell, int far) {
        return new int[] {cell[0] + below(2 * far + 1) - far, cell[1] + below(2 * far + 1) - far};
    }

    int[] inside(int[] cell) {
        if (oneIn(50)) {
            return cell;
        }
        return new int[] {Math.max(0, Math.min(29, cell[0])), Math.max(0, Math.min(19, cell[1]))};
    }

    int holeNow() {
        try {
            return theirs.holeOn();
        } catch (IllegalStateException e) {
            return 0;
        }
    }

    int[] lieOf(int player) {
        try {
            return new int[] {theirs.lie(player, true), theirs.lie(player, false)};
        } catch (RuntimeException e) {
            return tees.isEmpty() ? new int[] {5, 5} : tees.get(holeNow());
        }
    }

    boolean isOver() {
        try {
            theirs.holeOn();
            return false;
        } catch (IllegalStateException e) {
            return true;
        }
    }

    int[] cup() {
        return cups.isEmpty() ? new int[] {20, 10} : cups.get(holeNow());
    }

    char anyKind() {
        return oneIn(40) ? (char) below(128) : ".gbdyrwpowpwp".charAt(below(13));
    }
}
