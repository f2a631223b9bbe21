/** Compares answers with what is due, prints each that differs, and ends a test by its exit code. */
final class Check {
    private static int made = 0;
    private static int wrong = 0;

    private Check() {
    }

    static void is(String call, long got, long due) {
        judge(got == due, call + " answered " + got + ", due is " + due);
    }

    static void isDouble(String call, double got, double due) {
        judge(got == due, call + " answered " + got + ", due is " + due);
    }

    static void isText(String call, String got, String due) {
        judge(got.equals(due), call + " answered " + got + ", due is " + due);
    }

    static void badArgument(String call, Runnable action) {
        throwsExactly(call, IllegalArgumentException.class, action);
    }

    static void badState(String call, Runnable action) {
        throwsExactly(call, IllegalStateException.class, action);
    }

    static void badIndex(String call, Runnable action) {
        throwsExactly(call, IndexOutOfBoundsException.class, action);
    }

    static void throwsExactly(String call, Class<?> due, Runnable action) {
        String got = "nothing";
        try {
            action.run();
        } catch (RuntimeException e) {
            got = e.getClass().getName();
        }
        judge(got.equals(due.getName()), call + " threw " + got + ", due is " + due.getName());
    }

    static void judge(boolean right, String complaint) {
        made++;
        if (!right) {
            wrong++;
            System.out.println(complaint);
        }
    }

    static int wrongSoFar() {
        return wrong;
    }

    static void finish() {
        System.out.println(made + " checks, " + wrong + " wrong");
        if (made == 0 || wrong != 0) {
            System.exit(1);
        }
    }
}
