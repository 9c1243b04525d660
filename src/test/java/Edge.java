import java.util.IdentityHashMap;
import java.util.Map;
import java.util.NoSuchElementException;

/** Looks at the edges that the document names: ends of ranges, numbers that are none, and calls that are refused. */
final class Edge {
    static final int FAR = Integer.MAX_VALUE;
    static final int NEAR = Integer.MIN_VALUE;

    /** Makes a shop stand as it is wanted ahead of the call that is looked at. */
    interface Build {
        void in(BendTable t);
    }

    interface Use {
        Object on(BendTable t);
    }

    interface UseOfNumber {
        Object on(BendTable t, int number);
    }

    interface UseOfSign {
        Object on(BendTable t, char sign);
    }

    private static final Map<Build, String[]> LOOKS = new IdentityHashMap<>();

    private Edge() {
    }

    static BendTable built(Build build) {
        BendTable t = new BendTable();
        build.in(t);
        return t;
    }

    private static String untouched(Build build, int look) {
        String[] known = LOOKS.computeIfAbsent(build, any -> new String[Look.LOOKS]);
        if (known[look] == null) {
            known[look] = Look.at(built(build), look);
        }
        return known[look];
    }

    static Object answer(BendTable t, Use use) {
        try {
            return use.on(t);
        } catch (RuntimeException e) {
            Check.due("thrown by the program itself: " + e, Check.isOwn(e));
            return e.getClass();
        }
    }

    static void answers(String name, Object want, Build build, Use use) {
        Check.due(name, answer(built(build), use), want);
    }

    /** The call throws what is due, and the shop stands as one that never heard of it. */
    static void refused(String name, Class<?> want, Build build, Use use) {
        for (int look = 0; look < Look.LOOKS; look++) {
            BendTable t = built(build);
            Check.due(name, answer(t, use), want);
            Check.due(name + ", has changed nothing, look " + look, Look.at(t, look), untouched(build, look));
        }
    }

    static void noPlace(String name, Build build, Use use) {
        refused(name, IndexOutOfBoundsException.class, build, use);
    }

    static void badArgument(String name, Build build, Use use) {
        refused(name, IllegalArgumentException.class, build, use);
    }

    static void notNow(String name, Build build, Use use) {
        refused(name, UnsupportedOperationException.class, build, use);
    }

    static void full(String name, Build build, Use use) {
        refused(name, IllegalStateException.class, build, use);
    }

    static void nothing(String name, Build build, Use use) {
        refused(name, NoSuchElementException.class, build, use);
    }

    static void undefined(String name, Build build, Use use) {
        refused(name, ArithmeticException.class, build, use);
    }

    /** Both ends of a range are taken, and what lies beyond them is a bad argument. */
    static void range(String name, int least, int most, Build build, UseOfNumber use) {
        for (int number : new int[] {least, most}) {
            Object got = answer(built(build), t -> use.on(t, number));
            Check.due(name + ", " + number + " is taken and not " + got, !(got instanceof Class));
        }
        for (int number : new int[] {least - 1, most + 1, NEAR, FAR}) {
            badArgument(name + ", " + number + " is out of range", build, t -> use.on(t, number));
        }
    }

    /** Numbers go from the first to the last one: those beside them are none. */
    static void numbers(String name, int first, int last, Build build, UseOfNumber use) {
        for (int number = first; number <= last; number++) {
            int given = number;
            Object got = answer(built(build), t -> use.on(t, given));
            Check.due(name + ", there is a number " + number, got != (Object) IndexOutOfBoundsException.class);
        }
        for (int number : new int[] {first - 1, last + 1, NEAR, FAR}) {
            noPlace(name + ", there is no number " + number, build, t -> use.on(t, number));
        }
    }

    /** Only the signs told are taken; a sign that has the low byte of one of them is another one. */
    static void signs(String name, String taken, Build build, UseOfSign use) {
        StringBuilder others = new StringBuilder();
        for (char sign = 0; sign < 256; sign++) {
            others.append(taken.indexOf(sign) < 0 ? String.valueOf(sign) : String.valueOf((char) (sign + 256)));
        }
        others.append((char) 65535);
        for (int i = 0; i < taken.length(); i++) {
            char sign = taken.charAt(i);
            Object got = answer(built(build), t -> use.on(t, sign));
            Check.due(name + ", " + sign + " is taken", got != (Object) IllegalArgumentException.class);
        }
        for (int look = 0; look < Look.LOOKS; look++) {
            for (int from = 0; from < others.length(); from += 100) {
                BendTable t = built(build);
                for (int i = from; i < others.length() && i < from + 100; i++) {
                    char sign = others.charAt(i);
                    Check.due(name + ", sign " + (int) sign, answer(t, s -> use.on(s, sign)),
                            IllegalArgumentException.class);
                }
                Check.due(name + ", other signs have changed nothing", Look.at(t, look), untouched(build, look));
            }
        }
    }
}
