/** Holds answers against those that are due, prints what differs, and ends the program with 1 then. */
final class Due {
    private static final int MOST_PRINTED = 40;
    private static int wrong = 0;
    private static int looked = 0;

    interface Call {
        Object get();
    }

    private Due() {
    }

    static void is(String what, Object got, Object want) {
        looked++;
        if (!want.equals(got)) {
            miss(what + " answered " + got + ", due is " + want);
        }
    }

    static void is(String what, long got, long want) {
        looked++;
        if (got != want) {
            miss(what + " answered " + got + ", due is " + want);
        }
    }

    static void isTrue(String what, boolean got) {
        looked++;
        if (!got) {
            miss(what + " is not so");
        }
    }

    /** What a call answers, or the class of the exception that it throws. */
    static Object outcome(Call call) {
        try {
            return call.get();
        } catch (RuntimeException e) {
            return e.getClass();
        }
    }

    static void index(String what, Call call) {
        is(what, outcome(call), IndexOutOfBoundsException.class);
    }

    static void argument(String what, Call call) {
        is(what, outcome(call), IllegalArgumentException.class);
    }

    static void finish() {
        System.out.println(looked + " looks, " + wrong + " wrong");
        if (wrong > 0 || looked == 0) {
            System.exit(1);
        }
    }

    private static void miss(String line) {
        wrong++;
        if (wrong <= MOST_PRINTED) {
            System.out.println(line);
        }
    }
}
