/** What the tests share: each check that fails is printed, and end() leaves with 1 if there was one. */
final class Checks {
    interface Call {
        void run();
    }

    static final Class<?> INDEX = IndexOutOfBoundsException.class;
    static final Class<?> ARGUMENT = IllegalArgumentException.class;
    static final Class<?> STATE = IllegalStateException.class;

    private static int wrong = 0;
    private static int checked = 0;

    static void is(String what, long got, long due) {
        note(got == due, what + " answered " + got + ", due is " + due);
    }

    static void is(String what, boolean got, boolean due) {
        note(got == due, what + " answered " + got + ", due is " + due);
    }

    static void isText(String what, String got, String due) {
        note(due.equals(got), what + " answered " + got + ", due is " + due);
    }

    static void isPart(String what, double got, double due) {
        note(got == due, what + " answered " + got + ", due is " + due);
    }

    /** The call throws exactly this class, and changes nothing. */
    static void refuses(Plotroom room, String what, Class<?> due, Call call) {
        long before = room.digest();
        Class<?> got = thrownBy(call);
        note(got == due, what + " threw " + got + ", due is " + due);
        note(room.digest() == before, what + " changed something as it threw");
    }

    /** What the call throws, or null. What does not come from a throw of the class itself is wrong in any case. */
    static Class<?> thrownBy(Call call) {
        try {
            call.run();
            return null;
        } catch (RuntimeException e) {
            StackTraceElement[] trace = e.getStackTrace();
            note(trace.length > 0 && trace[0].getClassName().equals("Plotroom"), "not thrown by the class itself: " + e);
            return e.getClass();
        }
    }

    static void note(boolean isRight, String text) {
        checked++;
        if (!isRight) {
            wrong++;
            System.out.println(text);
        }
    }

    static void end() {
        System.out.println(checked + " checks, " + wrong + " wrong");
        if (wrong > 0) {
            System.exit(1);
        }
    }

    private Checks() {
    }
}
