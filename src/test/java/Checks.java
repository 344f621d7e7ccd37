/** What the tests share: each check that fails is printed, and end() leaves with 1 if there was one. */
final class Checks {
    interface Call {
        void run();
    }

    /** A call that gets one value; all else in it is as it should be. */
    interface Given {
        void call(Plotroom room, int value);
    }

    interface Told {
        void call(Plotroom room);
    }

    /** Makes the same room each time. */
    interface Rooms {
        Plotroom make();
    }

    static final Class<?> INDEX = IndexOutOfBoundsException.class;
    static final Class<?> ARGUMENT = IllegalArgumentException.class;
    static final Class<?> STATE = IllegalStateException.class;

    private static int wrong = 0;
    private static int checked = 0;

    static void is(String what, long got, long due) {
        note(got == due, what + " answered " + got + ", due is " + due);
    }

    static void is(String what, boolean got, boolean due) {
        note(got == due, what + " answered " + got + ", due is " + due);
    }

    static void isText(String what, String got, String due) {
        note(due.equals(got), what + " answered " + got + ", due is " + due);
    }

    static void isPart(String what, double got, double due) {
        note(got == due, what + " answered " + got + ", due is " + due);
    }

    /** The call throws exactly this class, and changes nothing. */
    static void refuses(Plotroom room, String what, Class<?> due, Call call) {
        long before = room.digest();
        Class<?> got = thrownBy(call);
        note(got == due, what + " threw " + got + ", due is " + due);
        note(room.digest() == before, what + " changed something as it threw");
    }

    /** The call throws exactly this class, and all that the room does later is as if it had not been called. */
    static void refusesForGood(Rooms rooms, String what, Class<?> due, Told told) {
        Plotroom room = rooms.make();
        Class<?> got = thrownBy(() -> told.call(room));
        note(got == due, what + " threw " + got + ", due is " + due);
        isText(what + ", and what comes later", Stories.of(room), Stories.of(rooms.make()));
    }

    /** The values from least to most are taken; the ones beside them and the farthest ones are refused. */
    static void edges(Rooms rooms, String what, Class<?> due, int least, int most, Given given) {
        for (int value : new int[] {least, most}) {
            Plotroom room = rooms.make();
            Class<?> got = thrownBy(() -> given.call(room, value));
            note(got == null, what + " with " + value + " threw " + got);
        }
        for (int value : new int[] {least - 1, most + 1, Integer.MIN_VALUE, Integer.MAX_VALUE}) {
            refusesForGood(rooms, what + " with " + value, due, room -> given.call(room, value));
        }
    }

    /** What the call throws, or null. What does not come from a throw of the class itself is wrong in any case. */
    static Class<?> thrownBy(Call call) {
        try {
            call.run();
            return null;
        } catch (RuntimeException e) {
            StackTraceElement[] trace = e.getStackTrace();
            note(trace.length > 0 && isOwn(trace[0].getClassName()), "not thrown by the class itself: " + e);
            return e.getClass();
        }
    }

    private static boolean isOwn(String className) {
        return className.equals("Plotroom") || className.startsWith("Plotroom$");
    }

    static void note(boolean isRight, String text) {
        checked++;
        if (!isRight) {
            wrong++;
            System.out.println(text);
        }
    }

    static void end() {
        System.out.println(checked + " checks, " + wrong + " wrong");
        if (wrong > 0) {
            System.exit(1);
        }
    }

    private Checks() {
    }
}
