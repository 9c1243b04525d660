import java.lang.reflect.InvocationTargetException;
import java.lang.reflect.Method;
import java.lang.reflect.Modifier;
import java.util.ArrayList;
import java.util.Arrays;
import java.util.Comparator;
import java.util.List;
import java.util.Map;
import java.util.TreeMap;

/** The same calls on the program and on the model, which have to give the same answers. */
final class ModelTest {
    private static final int CALLS = 512;
    // Where no name is told here, a call is drawn once.
    private static final Map<String, Integer> WEIGHTS = new TreeMap<>(Map.ofEntries(
            Map.entry("face", 8), Map.entry("hole", 3), Map.entry("strikes", 6), Map.entry("isMet", 3),
            Map.entry("spaceAt", 4), Map.entry("bendAt", 3), Map.entry("cost", 2), Map.entry("line", 4),
            Map.entry("nest", 4), Map.entry("tools", 2), Map.entry("fits", 3), Map.entry("ends", 3),
            Map.entry("late", 3), Map.entry("price", 2), Map.entry("waste", 3), Map.entry("measure", 2)));

    private final Draw draw;
    private final int most;
    // Until here, parts are built; a part in a line is built no more.
    private final int building;
    private final Object program = new BendTable();
    private final Object model = new Model();
    private final StringBuilder log = new StringBuilder();
    private final Map<String, Integer> seen;
    // Large shops have lengths of the whole ranges, small ones such that much is near the edges of something.
    private final boolean isLarge;

    private ModelTest(long seed, boolean isLarge, Map<String, Integer> seen) {
        draw = new Draw(seed);
        // Small shops have few faces, so that the model soon ends.
        most = draw.from(2, 8);
        building = draw.from(6, 90);
        this.seen = seen;
        this.isLarge = isLarge;
    }

    static void run() {
        run(1, 160, false);
        run(1001, 40, true);
    }

    static void run(long first, int runs, boolean isLarge) {
        Map<String, Integer> seen = new TreeMap<>();
        for (long seed = first; seed < first + runs; seed++) {
            new ModelTest(seed, isLarge, seen).compare(seed);
        }
        if (Boolean.getBoolean("seen")) {
            seen.forEach((what, times) -> System.out.println(times + " " + what));
        }
    }

    private void compare(long seed) {
        List<Method> drawn = new ArrayList<>();
        Method[] all = BendTable.class.getDeclaredMethods();
        Arrays.sort(all, Comparator.comparing(Method::getName));
        for (Method m : all) {
            for (int i = 0; Modifier.isPublic(m.getModifiers()) && i < WEIGHTS.getOrDefault(m.getName(), 1); i++) {
                drawn.add(m);
            }
        }
        for (int call = 0; call < CALLS; call++) {
            Method m = call < 3 ? named(all, "gauge") : call < 6 ? named(all, "part")
                    : call < building ? named(all, draw.from(0, 4) > 0 ? "face" : "hole")
                    : drawn.get(draw.from(0, drawn.size() - 1));
            Object[] arguments = arguments(m.getName());
            if (arguments == null) {
                continue;
            }
            String shown = m.getName() + Arrays.toString(arguments);
            Object got = answer(program, m, arguments);
            Object want = answer(model, m, arguments);
            log.append(shown).append(" = ").append(want).append('\n');
            String kind = m.getName() + " " + (want instanceof Class ? ((Class<?>) want).getSimpleName()
                    : want instanceof Character || want instanceof Boolean ? want : "answers");
            seen.merge(kind, 1, Integer::sum);
            int before = Check.wrong;
            Check.due("model, run " + seed + ", call " + call + ", " + shown, got, want);
            if (Check.wrong > before) {
                System.out.println(log);
                return;
            }
        }
    }

    private static Method named(Method[] all, String name) {
        return Arrays.stream(all).filter(m -> m.getName().equals(name)).findFirst().orElseThrow();
    }

    private static Object answer(Object shop, Method method, Object[] arguments) {
        try {
            return shop.getClass().getMethod(method.getName(), method.getParameterTypes()).invoke(shop, arguments);
        } catch (InvocationTargetException e) {
            return e.getCause().getClass();
        } catch (ReflectiveOperationException e) {
            throw new IllegalStateException(e);
        }
    }

    private Object[] arguments(String name) {
        BendTable t = (BendTable) program;
        int part = draw.wild(0, Math.max(0, parts(t) - 1), 30);
        switch (name) {
            case "gauge":
                return new Object[] {draw.wild(5, 60, 20), draw.wild(0, draw.from(0, 3) == 0 ? 20 : 3, 30)};
            case "part":
                return new Object[] {draw.wild(0, 1, 20), draw.wild(4, upTo(40, 300), 30),
                    draw.wild(4, upTo(40, 300), 30),
                    draw.oneOf("xy---z")};
            case "face":
                return face(t, part);
            case "hole": {
                int face = draw.wild(0, Math.max(0, count(t, part) - 1), 20);
                int w = size(t, part, face, 'w');
                int h = size(t, part, face, 'h');
                int x = draw.from(0, 5) == 0 ? draw.from(0, w) : draw.from(1, w / 2);
                int y = draw.from(0, 5) == 0 ? draw.from(0, h) : draw.from(1, h / 2);
                return new Object[] {part, face, x, y, draw.from(draw.from(0, 5) > 0 ? 1 : 0, w - x - 1),
                    draw.from(draw.from(0, 5) > 0 ? 1 : 0, h - y)};
            }
            case "flatAt":
                return new Object[] {part, anyFace(t, part), draw.oneOf("xywhz")};
            case "hasFault":
                return new Object[] {part, draw.oneOf("ohcohcq")};
            case "spaceAt":
                return new Object[] {part, bends(t, part), anyFace(t, part), draw.oneOf("xyzxyzw"),
                    draw.from(0, 1) == 1};
            case "isMet":
                return new Object[] {part, bends(t, part)};
            case "tools":
                return new Object[] {draw.wild(1, upTo(12, 60), 30), draw.wild(0, upTo(40, 100), 30),
                    draw.wild(1, upTo(12, 60), 30), draw.wild(draw.from(1, upTo(40, 250)), upTo(60, 300), 30)};
            case "limits":
                return new Object[] {draw.wild(draw.from(1, 40), 60, 20), draw.wild(0, 40, 20)};
            case "force":
                return new Object[] {part, anyFace(t, part)};
            case "strikes": {
                int bends = bends(t, part);
                int bend = anyFace(t, part);
                return new Object[] {part, draw.from(0, 9) > 0 ? bends & ~(1 << bend) : bends, bend};
            }
            case "bendAt":
                return new Object[] {part, draw.wild(0, Math.max(0, count(t, part) - 1), 10)};
            case "tool":
                return new Object[] {draw.wild(1, 12, 10), draw.wild(1, 12, 10)};
            case "toolOf":
                return new Object[] {part, draw.wild(0, holes(t, part), 10)};
            case "stock":
                return new Object[] {draw.wild(0, 1, 20), draw.wild(draw.from(4, upTo(120, 900)), upTo(200, 900), 20),
                    draw.wild(draw.from(4, upTo(120, 900)), upTo(200, 900), 20), draw.oneOf("xyxyxyz"),
                    draw.wild(1, 5, 20)};
            case "sheets":
                return new Object[] {draw.wild(0, stocks(t), 10)};
            case "size":
                return new Object[] {draw.wild(0, stocks(t), 10), draw.from(0, 1) == 1};
            case "line":
                return new Object[] {part, draw.wild(1, 40, 20), draw.wild(0, draw.from(0, 3) == 0 ? 99 : 6, 20)};
            case "fits":
                return new Object[] {part, draw.wild(0, stocks(t), 10)};
            case "nest": case "took": case "waste": case "ends": case "late": case "price":
                return new Object[] {draw.wild(0, lines(t), 20)};
            case "measure":
                return new Object[] {draw.wild(0, 1, 20), draw.wild(880, 930, 10)};
            case "setting":
                return new Object[] {draw.wild(0, 1, 20)};
            case "stocks": case "nestedShare": case "checksum": case "isSound":
                return new Object[0];
            default:
                return new Object[] {part};
        }
    }

    private int upTo(int ifSmall, int ifLarge) {
        return isLarge ? ifLarge : ifSmall;
    }

    private Object[] face(BendTable t, int part) {
        int known = count(t, part);
        // The model goes through all orders: most parts stay small.
        if (known >= most && draw.from(0, 30) > 0) {
            return null;
        }
        int of = draw.wild(0, Math.max(0, known - 1), 30);
        char side = draw.oneOf("neswneswneswq");
        int whole = size(t, part, of, side == 'e' || side == 'w' ? 'h' : 'w');
        int distance = draw.from(0, 2) == 0 ? 0 : draw.from(0, whole);
        int length = draw.from(0, 2) == 0 ? whole - distance : draw.from(0, whole);
        int depth = draw.from(0, 1) == 0 ? draw.wild(1, upTo(12, 40), 40)
                : draw.wild(1, upTo(40, 300), 60);
        return new Object[] {part, of, side, draw.from(0, 40) == 0 ? -1 : distance, length, depth,
            draw.oneOf("uuuuddddhhhq")};
    }

    private static int parts(BendTable t) {
        int parts = 0;
        while (count(t, parts) > 0) {
            parts++;
        }
        return parts;
    }

    private static int stocks(BendTable t) {
        return Math.max(0, t.stocks() - 1);
    }

    private static int lines(BendTable t) {
        int lines = 0;
        try {
            while (t.took(lines) >= 0) {
                lines++;
            }
        } catch (IndexOutOfBoundsException e) {
            return Math.max(0, lines - 1);
        }
        return 0;
    }

    private static int holes(BendTable t, int part) {
        int holes = 0;
        try {
            while (t.toolOf(part, holes) >= -1) {
                holes++;
            }
        } catch (IndexOutOfBoundsException e) {
            return Math.max(0, holes - 1);
        }
        return 0;
    }

    private static int count(BendTable t, int part) {
        try {
            return t.faces(part);
        } catch (IndexOutOfBoundsException e) {
            return 0;
        }
    }

    private static int size(BendTable t, int part, int face, char what) {
        try {
            return t.flatAt(part, face, what);
        } catch (IndexOutOfBoundsException e) {
            return 10;
        }
    }

    private int anyFace(BendTable t, int part) {
        int last = Math.max(0, count(t, part) - 1);
        return draw.wild(Math.min(last, draw.from(0, 4) == 0 ? 0 : 1), last, 20);
    }

    private int bends(BendTable t, int part) {
        int all = (1 << count(t, part)) - 2;
        int drawn = draw.from(0, 255) & all;
        int full = draw.from(0, 4) == 0 ? all : drawn;
        return draw.from(0, 20) == 0 ? full | 1 << draw.from(0, 31) : full;
    }
}
