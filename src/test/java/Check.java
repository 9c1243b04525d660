/** Counts answers that are not as due, and prints them. */
final class Check {
    static int wrong = 0;
    static int made = 0;

    interface Call {
        Object run();
    }

    private Check() {
    }

    static void due(String name, Object got, Object want) {
        made++;
        if (!want.equals(got)) {
            wrong++;
            System.out.println(name + ": answered " + got + ", due is " + want);
        }
    }

    static void due(String name, boolean holds) {
        due(name, holds, true);
    }

    /** The exception's class is to be the very one that the document names. */
    static void refused(String name, Class<?> want, Call call) {
        Object got;
        try {
            got = call.run();
        } catch (RuntimeException e) {
            due(name + ", thrown by the program itself", isOwn(e));
            got = e.getClass();
        }
        due(name, got, want);
    }

    /** Whether the program has thrown it by a throw of its own, and neither the machine nor its library has. */
    static boolean isOwn(Throwable thrown) {
        StackTraceElement[] where = thrown.getStackTrace();
        // Where the machine has thrown often at a place, it leaves the trace out.
        return where.length > 0 && where[0].getClassName().startsWith("BendTable");
    }

    static void noPlace(String name, Call call) {
        refused(name, IndexOutOfBoundsException.class, call);
    }

    static void badArgument(String name, Call call) {
        refused(name, IllegalArgumentException.class, call);
    }

    static void notNow(String name, Call call) {
        refused(name, UnsupportedOperationException.class, call);
    }

    static void full(String name, Call call) {
        refused(name, IllegalStateException.class, call);
    }

    static void nothing(String name, Call call) {
        refused(name, java.util.NoSuchElementException.class, call);
    }

    static void undefined(String name, Call call) {
        refused(name, ArithmeticException.class, call);
    }
}
