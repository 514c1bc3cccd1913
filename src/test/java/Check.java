/** Counts the answers that are not due, and prints them. */
final class Check {
    interface Call {
        Object answer();
    }

    private static int wrong;
    private static int all;

    private Check() {
    }

    static void same(String name, Object got, Object due) {
        all++;
        if (!got.equals(due)) {
            wrong++;
            System.out.println(name + ": answered " + got + ", due is " + due);
        }
    }

    static void refuses(String name, Class<? extends RuntimeException> due, Call call) {
        Object got;
        try {
            got = call.answer();
        } catch (RuntimeException e) {
            got = e.getClass();
        }
        same(name, got, due);
    }

    static void end(String name) {
        System.out.println(name + ": " + all + " answers, " + wrong + " not due");
        if (wrong != 0) {
            System.exit(1);
        }
    }
}
