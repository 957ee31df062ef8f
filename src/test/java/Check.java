/** Counts and prints answers that are not as due; each test ends with end(). */
final class Check {
    interface Call {
        void run();
    }

    private static int wrong = 0;
    private static int asked = 0;

    private Check() {
    }

    static void same(String what, long got, long due) {
        asked++;
        if (got != due) {
            tell(what + " answered " + got + ", due is " + due);
        }
    }

    static void same(String what, char got, char due) {
        asked++;
        if (got != due) {
            tell(what + " answered '" + got + "', due is '" + due + "'");
        }
    }

    static void same(String what, double got, double due) {
        asked++;
        if (got != due) {
            tell(what + " answered " + got + ", due is " + due);
        }
    }

    static void yes(String what, boolean got) {
        asked++;
        if (!got) {
            tell(what + " answered false");
        }
    }

    static void no(String what, boolean got) {
        asked++;
        if (got) {
            tell(what + " answered true");
        }
    }

    static void bounds(String what, Call call) {
        throwing(what, IndexOutOfBoundsException.class, call);
    }

    static void argument(String what, Call call) {
        throwing(what, IllegalArgumentException.class, call);
    }

    static void state(String what, Call call) {
        throwing(what, IllegalStateException.class, call);
    }

    static void unsupported(String what, Call call) {
        throwing(what, UnsupportedOperationException.class, call);
    }

    static void missing(String what, Call call) {
        throwing(what, java.util.NoSuchElementException.class, call);
    }

    static void arithmetic(String what, Call call) {
        throwing(what, ArithmeticException.class, call);
    }

    /** The class itself is asked for, so that a machine's exception below it is a fault. */
    private static void throwing(String what, Class<? extends RuntimeException> due, Call call) {
        asked++;
        try {
            call.run();
            tell(what + " threw nothing, due is " + due.getName());
        } catch (RuntimeException e) {
            if (e.getClass() != due) {
                tell(what + " threw " + e + ", due is " + due.getName());
            }
        }
    }

    static void tell(String fault) {
        wrong++;
        if (wrong <= 50) {
            System.out.println(fault);
        }
    }

    static void end() {
        System.out.println(asked + " answers asked for, " + wrong + " not as due");
        if (wrong != 0 || asked == 0) {
            System.exit(1);
        }
    }
}
