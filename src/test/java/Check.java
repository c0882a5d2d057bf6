/** Compares answers with those that are due, and ends a test. */
final class Check {
    private static int wrong;
    private static int made;

    private Check() {
    }

    static void same(String what, long got, long due) {
        made++;
        if (got != due) {
            fail(what + " answered " + got + ", due is " + due);
        }
    }

    static void equal(String what, String got, String due) {
        made++;
        if (!got.equals(due)) {
            fail(what + " answered " + got + ", due is " + due);
        }
    }

    static void holds(String what, boolean is) {
        made++;
        if (!is) {
            fail(what);
        }
    }

    static void badArgument(String what, Runnable call) {
        thrown(what, call, IllegalArgumentException.class);
    }

    static void badState(String what, Runnable call) {
        thrown(what, call, IllegalStateException.class);
    }

    private static void thrown(String what, Runnable call, Class<?> due) {
        made++;
        try {
            call.run();
        } catch (RuntimeException e) {
            if (e.getClass() != due) {
                fail(what + " threw " + e + ", due is " + due.getName());
            }
            return;
        }
        fail(what + " threw nothing, due is " + due.getName());
    }

    private static void fail(String text) {
        wrong++;
        if (wrong <= 20) {
            System.out.println(text);
        }
    }

    static void end() {
        System.out.println(made + " checks, " + wrong + " wrong");
        if (wrong != 0 || made == 0) {
            System.exit(1);
        }
    }
}
