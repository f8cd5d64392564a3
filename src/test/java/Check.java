/** Collects what is not as due; a test ends with exit code 1 if there was anything. */
final class Check {
    interface Call {
        void run();
    }

    private static int wrong = 0;

    private Check() {
    }

    static void same(String what, long got, long due) {
        if (got != due) {
            fail(what + " answered " + got + ", due is " + due);
        }
    }

    static void same(String what, String got, String due) {
        if (!got.equals(due)) {
            fail(what + "\n  is  " + got + "\n  due " + due);
        }
    }

    static void yes(String what, boolean got) {
        same(what, got ? 1 : 0, 1);
    }

    static void no(String what, boolean got) {
        same(what, got ? 1 : 0, 0);
    }

    static void noSuch(String what, Call call) {
        refused(what, call, java.util.NoSuchElementException.class);
    }

    static void badArgument(String what, Call call) {
        refused(what, call, IllegalArgumentException.class);
    }

    static void badState(String what, Call call) {
        refused(what, call, IllegalStateException.class);
    }

    static void fail(String text) {
        wrong++;
        System.out.println(text);
    }

    static void end() {
        if (wrong != 0) {
            System.out.println(wrong + " not as due");
            System.exit(1);
        }
    }

    static void refused(String what, Call call, Class<?> due) {
        try {
            call.run();
        } catch (RuntimeException e) {
            if (e.getClass() != due) {
                fail(what + " threw " + e.getClass().getName() + ", due is " + due.getName());
            }
            return;
        }
        fail(what + " threw nothing, due is " + due.getName());
    }
}
