/** Counts the answers of a test that are not the ones that are due, and prints each. */
final class Check {
    private static int checked = 0;
    private static int wrong = 0;

    private Check() {
    }

    /** A call that should throw. */
    interface Call {
        void run();
    }

    static void same(String what, long got, long due) {
        checked++;
        if (got != due) {
            tell(what + " answered " + got + ", due is " + due);
        }
    }

    static void same(String what, boolean got, boolean due) {
        same(what, got ? 1 : 0, due ? 1 : 0);
    }

    static void sameDouble(String what, double got, double due) {
        checked++;
        if (got != due) {
            tell(what + " answered " + got + ", due is " + due);
        }
    }

    static void sameText(String what, String got, String due) {
        checked++;
        if (!got.equals(due)) {
            tell(what + " answered " + got + ", due is " + due);
        }
    }

    /** The call throws just that exception, and the bench is as it was. */
    static void refuses(String what, FluxBench bench, Class<? extends RuntimeException> due, Call call) {
        checked++;
        long before = bench.digest();
        String got = "nothing";
        try {
            call.run();
        } catch (RuntimeException e) {
            got = e.getClass().getName();
        }
        if (!got.equals(due.getName())) {
            tell(what + " throws " + got + ", due is " + due.getName());
        }
        same(what + " leaves the digest", bench.digest(), before);
    }

    static void refusesPlace(String what, FluxBench bench, Call call) {
        refuses(what, bench, IndexOutOfBoundsException.class, call);
    }

    static void refusesArgument(String what, FluxBench bench, Call call) {
        refuses(what, bench, IllegalArgumentException.class, call);
    }

    static void refusesState(String what, FluxBench bench, Call call) {
        refuses(what, bench, IllegalStateException.class, call);
    }

    private static void tell(String line) {
        wrong++;
        if (wrong <= 40) {
            System.out.println(line);
        }
    }

    /** The last call of every test. */
    static void end(String test) {
        System.out.println(test + ": " + checked + " checked, " + wrong + " wrong");
        if (wrong != 0 || checked == 0) {
            System.exit(1);
        }
    }
}
