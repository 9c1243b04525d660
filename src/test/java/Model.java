import java.util.ArrayList;
import java.util.HashMap;
import java.util.HashSet;
import java.util.List;
import java.util.Map;
import java.util.NoSuchElementException;
import java.util.Set;
import java.util.TreeMap;

/**
 * A second, slow reading of the document: flats are painted cell by cell, faces in space are sets of places, and
 * orders are gone through one by one. It shares nothing with the program.
 */
public final class Model {
    private static final class Gauge {
        int thickness;
        int addition;
        final List<Integer> measures = new ArrayList<>();
    }

    private static final class Face {
        int of = -1;
        char side = '-';
        int distance;
        int length;
        int depth;
        char bend = '-';
        int x;
        int y;
        int w;
        int h;
    }

    private static final class Part {
        int gauge;
        char grain;
        boolean inLine;
        final List<Face> faces = new ArrayList<>();
        final List<int[]> holes = new ArrayList<>(); // face, x, y, w, h
        int version;
    }

    private static final class Stock {
        int gauge;
        int w;
        int h;
        char grain;
        int count;
    }

    private static final class Line {
        int part;
        int count;
        int due;
        int took;
        int laid;
        long sheetArea;
        long keptArea;
    }

    private static final class Best {
        int orders;
        int cost = Integer.MAX_VALUE;
        List<Integer> order;
    }

    private final List<Gauge> gauges = new ArrayList<>();
    private final List<Part> parts = new ArrayList<>();
    private final List<int[]> turret = new ArrayList<>();
    private final List<Stock> store = new ArrayList<>();
    private final List<Line> lines = new ArrayList<>();
    private int punch = 5;
    private int clear = 20;
    private int die = 8;
    private int bed = 60;
    private int mostLength = 400;
    private int mostForce = 200;
    private int pressVersion;
    private final Map<String, Object> memo = new HashMap<>();

    private interface Answer {
        Object find();
    }

    private Object remember(String key, Answer answer) {
        if (!memo.containsKey(key)) {
            memo.put(key, answer.find());
        }
        return memo.get(key);
    }

    private static void place(boolean holds) {
        if (!holds) {
            throw new IndexOutOfBoundsException();
        }
    }

    private static void argument(boolean holds) {
        if (!holds) {
            throw new IllegalArgumentException();
        }
    }

    private static void possible(boolean holds) {
        if (!holds) {
            throw new UnsupportedOperationException();
        }
    }

    private static void state(boolean holds) {
        if (!holds) {
            throw new IllegalStateException();
        }
    }

    private static void element(boolean holds) {
        if (!holds) {
            throw new NoSuchElementException();
        }
    }

    private static boolean in(int n, int a, int b) {
        return a <= n && n <= b;
    }

    private Part of(int part) {
        place(in(part, 0, parts.size() - 1));
        return parts.get(part);
    }

    private Face of(Part part, int face) {
        place(in(face, 0, part.faces.size() - 1));
        return part.faces.get(face);
    }

    public int gauge(int thickness, int addition) {
        argument(in(thickness, 5, 60) && in(addition, 0, 20));
        state(gauges.size() < 6);
        Gauge g = new Gauge();
        g.thickness = thickness;
        g.addition = addition;
        gauges.add(g);
        return gauges.size() - 1;
    }

    public int part(int gauge, int width, int height, char grain) {
        place(in(gauge, 0, gauges.size() - 1));
        argument(in(width, 4, 300) && in(height, 4, 300) && "xy-".indexOf(grain) >= 0);
        state(parts.size() < 8);
        Part p = new Part();
        p.gauge = gauge;
        p.grain = grain;
        Face f = new Face();
        f.w = width;
        f.h = height;
        p.faces.add(f);
        parts.add(p);
        return parts.size() - 1;
    }

    private static char opposite(char side) {
        return side == '-' ? '-' : "wesn".charAt("ewns".indexOf(side));
    }

    private static boolean isUpright(char side) {
        return side == 'e' || side == 'w';
    }

    public int face(int part, int of, char side, int distance, int length, int depth, char bend) {
        Part p = of(part);
        Face root = of(p, of);
        argument("nesw".indexOf(side) >= 0 && "udh".indexOf(bend) >= 0);
        argument(distance >= 0 && length >= 1);
        argument((long) distance + length <= (isUpright(side) ? root.h : root.w));
        argument(in(depth, 1, 300));
        possible(!p.inLine);
        possible(opposite(root.side) != side);
        for (Face f : p.faces) {
            for (int at = distance; at < distance + length; at++) {
                possible(!(f.of == of && f.side == side && in(at, f.distance, f.distance + f.length - 1)));
            }
        }
        state(p.faces.size() < 8);
        Face f = new Face();
        f.of = of;
        f.side = side;
        f.distance = distance;
        f.length = length;
        f.depth = depth;
        f.bend = bend;
        f.w = isUpright(side) ? depth : length;
        f.h = isUpright(side) ? length : depth;
        int a = gauges.get(p.gauge).addition;
        f.x = side == 'e' ? root.x + root.w + a : side == 'w' ? root.x - a - depth : root.x + distance;
        f.y = side == 'n' ? root.y + root.h + a : side == 's' ? root.y - a - depth : root.y + distance;
        p.faces.add(f);
        p.version++;
        return p.faces.size() - 1;
    }

    public int hole(int part, int face, int x, int y, int width, int height) {
        Part p = of(part);
        Face f = of(p, face);
        argument(x >= 1 && y >= 1 && width >= 1 && height >= 1);
        argument((long) x + width <= f.w - 1 && (long) y + height <= f.h - 1);
        possible(!p.inLine);
        state(p.holes.size() < 8);
        p.holes.add(new int[] {face, x, y, width, height});
        return p.holes.size();
    }

    public int faces(int part) {
        return of(part).faces.size();
    }

    // ---- the flat: painted cell by cell

    private static final class Painted {
        int[][] times;
        int left;
        int low;
        int covered;
        int outline;
        int width;
        int height;
        boolean isFlat = true;
    }

    private Painted painted(int part) {
        Part p = parts.get(part);
        return (Painted) remember("flat " + part + " " + p.version, () -> paint(p));
    }

    private Painted paint(Part p) {
        Painted d = new Painted();
        int right = 0;
        int high = 0;
        for (Face f : p.faces) {
            d.left = Math.min(d.left, f.x);
            d.low = Math.min(d.low, f.y);
            right = Math.max(right, f.x + f.w);
            high = Math.max(high, f.y + f.h);
        }
        d.width = right - d.left;
        d.height = high - d.low;
        // With an empty cell all around.
        d.times = new int[d.width + 2][d.height + 2];
        for (Face f : p.faces) {
            brush(d, f.x, f.y, f.w, f.h);
            if (f.of < 0) {
                continue;
            }
            int a = gauges.get(p.gauge).addition;
            switch (f.side) {
                case 'e': brush(d, f.x - a, f.y, a, f.h); break;
                case 'w': brush(d, f.x + f.w, f.y, a, f.h); break;
                case 'n': brush(d, f.x, f.y - a, f.w, a); break;
                default: brush(d, f.x, f.y + f.h, f.w, a); break;
            }
        }
        for (int i = 1; i <= d.width; i++) {
            for (int j = 1; j <= d.height; j++) {
                if (d.times[i][j] == 0) {
                    continue;
                }
                d.covered++;
                d.isFlat &= d.times[i][j] == 1;
                d.outline += d.times[i - 1][j] == 0 ? 1 : 0;
                d.outline += d.times[i + 1][j] == 0 ? 1 : 0;
                d.outline += d.times[i][j - 1] == 0 ? 1 : 0;
                d.outline += d.times[i][j + 1] == 0 ? 1 : 0;
            }
        }
        d.times = null;
        return d;
    }

    private static void brush(Painted d, int x, int y, int w, int h) {
        for (int i = x; i < x + w; i++) {
            for (int j = y; j < y + h; j++) {
                d.times[i - d.left + 1][j - d.low + 1]++;
            }
        }
    }

    public int flatAt(int part, int face, char what) {
        Face f = of(of(part), face);
        argument("xywh".indexOf(what) >= 0);
        return what == 'x' ? f.x : what == 'y' ? f.y : what == 'w' ? f.w : f.h;
    }

    public int width(int part) {
        of(part);
        return painted(part).width;
    }

    public int height(int part) {
        of(part);
        return painted(part).height;
    }

    public int area(int part) {
        Part p = of(part);
        int sum = painted(part).covered;
        for (int[] hole : p.holes) {
            sum -= hole[3] * hole[4];
        }
        return sum;
    }

    public int outline(int part) {
        of(part);
        return painted(part).outline;
    }

    public int reliefs(int part) {
        Part p = of(part);
        int sum = 0;
        for (Face f : p.faces) {
            if (f.of >= 0) {
                Face root = p.faces.get(f.of);
                sum += f.distance == 0 ? 0 : 1;
                sum += f.distance + f.length == (isUpright(f.side) ? root.h : root.w) ? 0 : 1;
            }
        }
        return sum;
    }

    private boolean holeFault(Part p) {
        int thickness = gauges.get(p.gauge).thickness;
        for (int[] hole : p.holes) {
            Face f = p.faces.get(hole[0]);
            Set<Character> bent = new HashSet<>();
            bent.add(opposite(f.side));
            for (Face other : p.faces) {
                if (other.of == hole[0]) {
                    bent.add(other.side);
                }
            }
            for (char side : bent) {
                int gap = side == 'w' ? hole[1] : side == 's' ? hole[2]
                        : side == 'e' ? f.w - (hole[1] + hole[3]) : side == 'n' ? f.h - (hole[2] + hole[4])
                        : 1000;
                if (gap < 3 * thickness / 10.0 - 1e-9) {
                    return true;
                }
            }
        }
        return false;
    }

    public int faults(int part) {
        of(part);
        return (hasFault(part, 'o') ? 1 : 0) + (hasFault(part, 'h') ? 1 : 0) + (hasFault(part, 'c') ? 1 : 0);
    }

    public boolean hasFault(int part, char fault) {
        Part p = of(part);
        argument("ohc".indexOf(fault) >= 0);
        if (fault == 'o') {
            return !painted(part).isFlat;
        }
        return fault == 'h' ? holeFault(p) : isMet(part, (1 << p.faces.size()) - 2);
    }

    // ---- space: a face is told by three vectors, its places by doubled numbers

    private static int[] plus(int[] a, int[] b, int times) {
        return new int[] {a[0] + times * b[0], a[1] + times * b[1], a[2] + times * b[2]};
    }

    private static int dot(int[] a, int[] b) {
        return a[0] * b[0] + a[1] * b[1] + a[2] * b[2];
    }

    private static int[] cross(int[] a, int[] b) {
        return new int[] {a[1] * b[2] - a[2] * b[1], a[2] * b[0] - a[0] * b[2], a[0] * b[1] - a[1] * b[0]};
    }

    private static final class Pose {
        int[] origin;
        int[] ex;
        int[] ey;
        int[] up;
        int w;
        int h;

        int[] at(int x, int y) {
            return plus(plus(origin, ex, x), ey, y);
        }
    }

    private static int[] local(char side, Pose p) {
        return side == 'e' ? p.ex : side == 'w' ? plus(new int[3], p.ex, -1)
                : side == 'n' ? p.ey : plus(new int[3], p.ey, -1);
    }

    private List<Pose> poses(Part p, int bends) {
        List<Pose> all = new ArrayList<>();
        for (int i = 0; i < p.faces.size(); i++) {
            Face f = p.faces.get(i);
            Pose q = new Pose();
            q.w = f.w;
            q.h = f.h;
            if (i == 0) {
                q.origin = new int[3];
                q.ex = new int[] {1, 0, 0};
                q.ey = new int[] {0, 1, 0};
                q.up = new int[] {0, 0, 1};
                all.add(q);
                continue;
            }
            Pose root = all.get(f.of);
            int[] out = local(f.side, root);
            int[] goes = out;
            int[] looks = root.up;
            int[] hinge = f.side == 'e' ? root.at(root.w, f.distance) : f.side == 'w' ? root.at(0, f.distance)
                    : f.side == 'n' ? root.at(f.distance, root.h) : root.at(f.distance, 0);
            if ((bends >> i & 1) == 1) {
                if (f.bend == 'u') {
                    goes = root.up;
                    looks = plus(new int[3], out, -1);
                } else if (f.bend == 'd') {
                    goes = plus(new int[3], root.up, -1);
                    looks = out;
                } else {
                    goes = plus(new int[3], out, -1);
                    looks = plus(new int[3], root.up, -1);
                    hinge = plus(hinge, root.up, 1);
                }
            }
            q.up = looks;
            // The faces are never mirrored: the third vector is told by the two others.
            if (isUpright(f.side)) {
                q.ex = f.side == 'e' ? goes : plus(new int[3], goes, -1);
                q.ey = cross(q.up, q.ex);
            } else {
                q.ey = f.side == 'n' ? goes : plus(new int[3], goes, -1);
                q.ex = cross(q.ey, q.up);
            }
            q.origin = f.side == 'e' || f.side == 'n' ? hinge : plus(hinge, goes, f.depth);
            all.add(q);
        }
        return all;
    }

    /** The doubled places strictly within a face along a direction. */
    private static Set<Integer> places(Pose p, int[] direction) {
        int a = dot(p.at(0, 0), direction);
        int b = dot(p.at(p.w, p.h), direction);
        Set<Integer> all = new HashSet<>();
        if (a == b) {
            all.add(2 * a);
        }
        for (int i = 2 * Math.min(a, b) + 1; i < 2 * Math.max(a, b); i++) {
            all.add(i);
        }
        return all;
    }

    private static final int[][] AXES = {{1, 0, 0}, {0, 1, 0}, {0, 0, 1}};

    private boolean bendsOf(Part p, int bends) {
        for (int i = 0; i < 32; i++) {
            if ((bends >>> i & 1) == 1 && !in(i, 1, p.faces.size() - 1)) {
                return false;
            }
        }
        return true;
    }

    public int spaceAt(int part, int bends, int face, char direction, boolean isGreater) {
        Part p = of(part);
        of(p, face);
        argument("xyz".indexOf(direction) >= 0 && bendsOf(p, bends));
        Pose q = poses(p, bends).get(face);
        int[] axis = AXES["xyz".indexOf(direction)];
        int a = dot(q.at(0, 0), axis);
        int b = dot(q.at(q.w, q.h), axis);
        return isGreater ? Math.max(a, b) : Math.min(a, b);
    }

    public boolean isMet(int part, int bends) {
        Part p = of(part);
        argument(bendsOf(p, bends));
        return (Boolean) remember("met " + part + " " + p.version + " " + bends, () -> met(p, bends));
    }

    private boolean met(Part p, int bends) {
        List<Pose> all = poses(p, bends);
        for (int a = 0; a < all.size(); a++) {
            for (int b = 0; b < a; b++) {
                if (p.faces.get(a).of == b) {
                    continue;
                }
                boolean meet = true;
                for (int[] axis : AXES) {
                    Set<Integer> shared = places(all.get(a), axis);
                    shared.retainAll(places(all.get(b), axis));
                    meet &= !shared.isEmpty();
                }
                if (meet) {
                    return true;
                }
            }
        }
        return false;
    }

    // ---- press

    public int tools(int newPunch, int newClear, int newDie, int newBed) {
        argument(in(newPunch, 1, 60) && in(newClear, 0, 100) && in(newDie, 1, 60) && in(newBed, 1, 300));
        int changed = 0;
        changed += newPunch != punch ? 1 : 0;
        changed += newClear != clear ? 1 : 0;
        changed += newDie != die ? 1 : 0;
        changed += newBed != bed ? 1 : 0;
        punch = newPunch;
        clear = newClear;
        die = newDie;
        bed = newBed;
        pressVersion++;
        return changed;
    }

    public int limits(int length, int force) {
        argument(in(length, 1, 999) && in(force, 0, 999));
        int before = mostForce;
        mostLength = length;
        mostForce = force;
        pressVersion++;
        return before;
    }

    public int force(int part, int bend) {
        Part p = of(part);
        place(bend != 0);
        Face f = of(p, bend);
        int t = gauges.get(p.gauge).thickness;
        return f.length * t * t / (1000 * die);
    }

    public char strikes(int part, int bends, int bend) {
        Part p = of(part);
        place(bend != 0);
        of(p, bend);
        argument(bendsOf(p, bends));
        possible((bends >> bend & 1) == 0);
        return (Character) remember(
                "strikes " + part + " " + p.version + " " + pressVersion + " " + bends + " " + bend,
                () -> letter(part, bends, bend));
    }

    private char letter(int part, int bends, int bend) {
        String found = struck(part, bends, bend) + struck(part, bends | 1 << bend, bend);
        for (char letter : "pdbm".toCharArray()) {
            if (found.indexOf(letter) >= 0) {
                return letter;
            }
        }
        if (parts.get(part).faces.get(bend).length > mostLength) {
            return 'l';
        }
        return force(part, bend) > mostForce ? 'f' : '-';
    }

    private String struck(int part, int bends, int bend) {
        Part p = parts.get(part);
        List<Pose> all = poses(p, bends);
        Face bent = p.faces.get(bend);
        Pose root = all.get(bent.of);
        int[] above = bent.bend == 'd' ? plus(new int[3], root.up, -1) : root.up;
        int[] out = local(bent.side, root);
        int[] along = isUpright(bent.side) ? root.ey : root.ex;
        int[] first = bent.side == 'e' ? root.at(root.w, bent.distance) : bent.side == 'w' ? root.at(0, bent.distance)
                : bent.side == 'n' ? root.at(bent.distance, root.h) : root.at(bent.distance, 0);
        StringBuilder found = new StringBuilder();
        for (Pose q : all) {
            boolean isBetween = false;
            for (int t : places(q, along)) {
                isBetween |= t > 2 * dot(first, along) && t < 2 * (dot(first, along) + bent.length);
            }
            boolean isNearPunch = false;
            boolean isNearDie = false;
            for (int t : places(q, out)) {
                isNearPunch |= Math.abs(t - 2 * dot(first, out)) < 2 * punch;
                isNearDie |= Math.abs(t - 2 * dot(first, out)) < 2 * die;
            }
            for (int t : places(q, above)) {
                int height = t - 2 * dot(first, above);
                found.append(height > 2 * clear && isNearPunch && isBetween ? "p" : "");
                found.append(height < 0 && isNearDie && isBetween ? "d" : "");
                found.append(height < -2 * bed ? "b" : "");
            }
        }
        return found.append(isMet(part, bends) ? "m" : "").toString();
    }

    private Best search(int part) {
        Part p = parts.get(part);
        String key = "best " + part + " " + p.version + " " + pressVersion;
        Best known = (Best) memo.get(key);
        if (known == null) {
            known = new Best();
            tryOrders(part, 0, new ArrayList<>(), 0, known);
            memo.put(key, known);
        }
        return known;
    }

    private int[][] stance(int part, int bends, int bend) {
        Part p = parts.get(part);
        Face f = p.faces.get(bend);
        return (int[][]) remember("stance " + part + " " + p.version + " " + bends + " " + bend, () -> {
            Pose root = poses(p, bends).get(f.of);
            int[] line = isUpright(f.side) ? root.ey : root.ex;
            int[] upToSign = {Math.abs(line[0]), Math.abs(line[1]), Math.abs(line[2])};
            return new int[][] {f.bend == 'd' ? plus(new int[3], root.up, -1) : root.up, upToSign};
        });
    }

    // Each bend is looked at as it stands when it is made: the one before with less made than the one behind it.
    private void tryOrders(int part, int made, List<Integer> order, int cost, Best best) {
        int bends = parts.get(part).faces.size() - 1;
        if (order.size() == bends) {
            best.orders++;
            if (cost < best.cost) {
                best.cost = cost;
                best.order = new ArrayList<>(order);
            }
            return;
        }
        for (int bend = 1; bend <= bends; bend++) {
            if ((made >> bend & 1) == 1 || strikes(part, made, bend) != '-') {
                continue;
            }
            int more = 0;
            if (!order.isEmpty()) {
                int last = order.get(order.size() - 1);
                int[][] then = stance(part, made & ~(1 << last), last);
                int[][] now = stance(part, made, bend);
                more += java.util.Arrays.equals(then[0], now[0]) ? 0 : 3;
                more += java.util.Arrays.equals(then[1], now[1]) ? 0 : 1;
            }
            order.add(bend);
            tryOrders(part, made | 1 << bend, order, cost + more, best);
            order.remove(order.size() - 1);
        }
    }

    public int cost(int part) {
        of(part);
        Best best = search(part);
        element(best.orders > 0);
        return best.cost;
    }

    public int bendAt(int part, int place) {
        of(part);
        Best best = search(part);
        element(best.orders > 0 && in(place, 0, best.order.size() - 1));
        return best.order.get(place);
    }

    public int orders(int part) {
        of(part);
        return search(part).orders;
    }

    // ---- turret

    public int tool(int width, int height) {
        argument(in(width, 1, 60) && in(height, 1, 60));
        state(turret.size() < 6);
        turret.add(new int[] {width, height});
        return turret.size() - 1;
    }

    private static int steps(int whole, int step) {
        int n = 0;
        for (int at = 0; at < whole; at += step) {
            n++;
        }
        return n;
    }

    private int needs(int tool, int[] hole) {
        int[] t = turret.get(tool);
        return t[0] > hole[3] || t[1] > hole[4] ? Integer.MAX_VALUE : steps(hole[3], t[0]) * steps(hole[4], t[1]);
    }

    private int toolFor(int[] hole) {
        int best = -1;
        for (int i = turret.size() - 1; i >= 0; i--) {
            int n = needs(i, hole);
            if (n != Integer.MAX_VALUE && (best < 0 || n <= needs(best, hole))) {
                best = i;
            }
        }
        return best;
    }

    public int toolOf(int part, int hole) {
        Part p = of(part);
        place(in(hole, 0, p.holes.size() - 1));
        return toolFor(p.holes.get(hole));
    }

    public int hits(int part) {
        int sum = 0;
        for (int[] hole : of(part).holes) {
            int t = toolFor(hole);
            sum += t < 0 ? 0 : needs(t, hole);
        }
        return sum;
    }

    public int flatTime(int part) {
        Part p = of(part);
        Set<Integer> used = new HashSet<>();
        int cut = outline(part);
        for (int[] hole : p.holes) {
            int t = toolFor(hole);
            if (t >= 0) {
                used.add(t);
            } else {
                cut += hole[3] + hole[4] + hole[3] + hole[4];
            }
        }
        return hits(part) + 5 * used.size() + steps(cut, 50);
    }

    public int pressTime(int part) {
        Part p = of(part);
        int time = 2 * cost(part);
        for (Face f : p.faces) {
            time += f.bend == '-' ? 0 : f.bend == 'h' ? 12 : 6;
        }
        return time;
    }

    // ---- sheets, lines, nests

    public int stock(int gauge, int width, int height, char grain, int count) {
        place(in(gauge, 0, gauges.size() - 1));
        argument(in(width, 4, 900) && in(height, 4, 900) && "xy".indexOf(grain) >= 0 && in(count, 1, 20));
        state(store.size() < 10);
        addStock(gauge, width, height, grain, count);
        return store.size() - 1;
    }

    private void addStock(int gauge, int width, int height, char grain, int count) {
        Stock s = new Stock();
        s.gauge = gauge;
        s.w = width;
        s.h = height;
        s.grain = grain;
        s.count = count;
        store.add(s);
    }

    private Stock stockOf(int stock) {
        place(in(stock, 0, store.size() - 1));
        return store.get(stock);
    }

    public int sheets(int stock) {
        return stockOf(stock).count;
    }

    public int size(int stock, boolean isHeight) {
        Stock s = stockOf(stock);
        return isHeight ? s.h : s.w;
    }

    public int stocks() {
        return store.size();
    }

    public int line(int part, int count, int due) {
        Part p = of(part);
        argument(in(count, 1, 40) && in(due, 0, 99));
        possible(faults(part) == 0 && orders(part) > 0);
        state(lines.size() < 10);
        Line l = new Line();
        l.part = part;
        l.count = count;
        l.due = due;
        lines.add(l);
        p.inLine = true;
        return lines.size() - 1;
    }

    private int[] piece(int part, Stock s) {
        int w = width(part);
        int h = height(part);
        char grain = parts.get(part).grain;
        boolean asItIs = grain == '-' ? w <= s.w && h <= s.h : grain == s.grain;
        return asItIs ? new int[] {w, h} : new int[] {h, w};
    }

    /** The upper ends of the first pieces that lie on a sheet, piece by piece. */
    private List<Integer> lay(int part, Stock s, int most) {
        int[] piece = piece(part, s);
        List<Integer> ends = new ArrayList<>();
        for (int y = 0; y + piece[1] <= s.h; y += piece[1] + 2) {
            for (int x = 0; x + piece[0] <= s.w; x += piece[0] + 2) {
                if (ends.size() < most) {
                    ends.add(y + piece[1]);
                }
            }
        }
        return ends;
    }

    public int fits(int part, int stock) {
        Part p = of(part);
        Stock s = stockOf(stock);
        possible(p.gauge == s.gauge);
        return lay(part, s, Integer.MAX_VALUE).size();
    }

    private Line lineOf(int line) {
        place(in(line, 0, lines.size() - 1));
        return lines.get(line);
    }

    public int nest(int line) {
        Line l = lineOf(line);
        possible(l.took == 0);
        Part p = parts.get(l.part);
        List<Stock> taken = new ArrayList<>();
        List<List<Integer>> laid = new ArrayList<>();
        int left = l.count;
        for (Stock s : store) {
            for (int i = 0; i < s.count && s.gauge == p.gauge && left > 0; i++) {
                List<Integer> ends = lay(l.part, s, left);
                if (ends.isEmpty()) {
                    break;
                }
                taken.add(s);
                laid.add(ends);
                left -= ends.size();
            }
        }
        element(left == 0);
        for (int i = 0; i < taken.size(); i++) {
            Stock s = taken.get(i);
            s.count--;
            l.laid += laid.get(i).size();
            l.sheetArea += s.w * s.h;
            int high = s.h - laid.get(i).get(laid.get(i).size() - 1) - 2;
            if (high >= 20 && s.w >= 20 && store.size() < 10) {
                addStock(s.gauge, s.w, high, s.grain, 1);
                l.keptArea += s.w * high;
            }
        }
        l.took = taken.size();
        return l.took;
    }

    public int took(int line) {
        return lineOf(line).took;
    }

    public int waste(int line) {
        Line l = lineOf(line);
        element(l.took > 0);
        return (int) ((l.sheetArea - l.keptArea - (long) l.count * area(l.part)) * 1000 / l.sheetArea);
    }

    // ---- angles, lots, prices

    public int measure(int gauge, int tenths) {
        place(in(gauge, 0, gauges.size() - 1));
        argument(in(tenths, 300, 1200));
        List<Integer> all = gauges.get(gauge).measures;
        all.add(tenths);
        if (all.size() > 5) {
            all.remove(0);
        }
        return all.size();
    }

    public int setting(int gauge) {
        place(in(gauge, 0, gauges.size() - 1));
        List<Integer> all = gauges.get(gauge).measures;
        double lack = 0;
        for (int m : all) {
            lack += 900 - m;
        }
        return all.isEmpty() ? 900 : 900 + (int) (lack / all.size());
    }

    public int ends(int line) {
        Line l = lineOf(line);
        element(l.took > 0 && orders(l.part) > 0);
        TreeMap<Integer, Line> byDue = new TreeMap<>();
        for (int i = 0; i < lines.size(); i++) {
            Line other = lines.get(i);
            if (other.took > 0 && orders(other.part) > 0) {
                byDue.put(other.due * 100 + i, other);
            }
        }
        int first = 0;
        int second = 0;
        for (Line other : byDue.values()) {
            first += other.count * flatTime(other.part);
            second = Math.max(first, second) + other.count * pressTime(other.part);
            if (other == l) {
                break;
            }
        }
        return second;
    }

    public int late(int line) {
        int minute = ends(line);
        int days = 0;
        while (minute > 480 * (lines.get(line).due + days + 1)) {
            days++;
        }
        return days;
    }

    public long price(int line) {
        Line l = lineOf(line);
        element(orders(l.part) > 0);
        int t = gauges.get(parts.get(l.part).gauge).thickness;
        long each = (long) width(l.part) * height(l.part) * t / 100 + flatTime(l.part) + pressTime(l.part);
        return l.count * each + 50;
    }

    // ---- figures

    public float nestedShare() {
        int all = 0;
        int nested = 0;
        for (Line l : lines) {
            all += l.count;
            nested += l.laid;
        }
        if (all == 0) {
            throw new ArithmeticException();
        }
        return (float) nested / (float) all;
    }

    public double meanAddition(int part) {
        Part p = of(part);
        if (p.faces.size() == 1) {
            throw new ArithmeticException();
        }
        return gauges.get(p.gauge).addition;
    }

    public long checksum() {
        long sum = 7;
        for (int i = 0; i < parts.size(); i++) {
            sum = 31 * sum + area(i);
            sum = 31 * sum + outline(i);
            sum = 31 * sum + orders(i);
        }
        return sum;
    }

    public boolean isSound() {
        return true;
    }
}
