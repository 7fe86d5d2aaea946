/** Counts and prints the answers that are not the ones that are due. */
final class Due {
    interface Call {
        void run();
    }

    private static int looked = 0;
    private static int wrong = 0;

    private Due() {
    }

    static void is(String what, long got, long want) {
        looked++;
        if (got != want) {
            wrong++;
            System.out.println(what + " answered " + got + ", due is " + want);
        }
    }

    static void is(String what, boolean got, boolean want) {
        is(what, got ? 1 : 0, want ? 1 : 0);
    }

    static void same(String what, String got, String want) {
        looked++;
        if (!got.equals(want)) {
            wrong++;
            System.out.println(what + " answered " + got + ", due is " + want);
        }
    }

    static void noIndex(String what, Call call) {
        refuses(what, IndexOutOfBoundsException.class, call);
    }

    static void badArgument(String what, Call call) {
        refuses(what, IllegalArgumentException.class, call);
    }

    static void notNow(String what, Call call) {
        refuses(what, IllegalStateException.class, call);
    }

    // A subclass is wrong too: it would be one that the machine threw.
    private static void refuses(String what, Class<?> due, Call call) {
        looked++;
        Class<?> thrown = thrownBy(call);
        if (thrown != due) {
            wrong++;
            System.out.println(what + " threw " + thrown + ", due is " + due);
        }
    }

    static Class<?> thrownBy(Call call) {
        try {
            call.run();
            return null;
        } catch (RuntimeException e) {
            return e.getClass();
        }
    }

    static void close(String test) {
        System.out.println(test + ": " + looked + " answers looked at, " + wrong + " wrong");
        if (wrong != 0) {
            System.exit(1);
        }
    }
}
