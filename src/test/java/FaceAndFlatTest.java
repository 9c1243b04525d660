/** Promises 1 to 14: gauges, parts, faces, holes, the flat and its faults. */
final class FaceAndFlatTest {
    private static final int FAR = Integer.MAX_VALUE;
    private static final int NEAR = Integer.MIN_VALUE;

    private FaceAndFlatTest() {
    }

    static void run() {
        newObject();
        gauges();
        parts();
        faces();
        facesOutOfReach();
        facesTaken();
        holes();
        flat();
        cross();
        ring();
        overlap();
        reliefs();
        holeFaults();
        meetingFaults();
    }

    static BendTable shop(int thickness, int addition, int width, int height, char grain) {
        BendTable t = new BendTable();
        t.gauge(thickness, addition);
        t.part(0, width, height, grain);
        return t;
    }

    private static void newObject() {
        BendTable t = new BendTable();
        Check.due("1: no stocks", t.stocks(), 0);
        Check.due("1: the sum of nothing", t.checksum(), 7L);
        Check.due("1: sound", t.isSound());
        Check.due("1: tools of a new shop", t.tools(5, 20, 8, 60), 0);
        Check.due("1: force of a new shop", t.limits(400, 200), 200);
        Check.noPlace("1: no gauge", () -> t.setting(0));
        Check.noPlace("1: no part", () -> t.faces(0));
        Check.noPlace("1: no line", () -> t.took(0));
        Check.noPlace("1: no stock", () -> t.sheets(0));
        // A bend of 300 is within the length of a new shop, and one of 400 is not to be had.
        BendTable u = shop(10, 0, 300, 30, '-');
        u.face(0, 0, 'n', 0, 300, 10, 'u');
        Check.due("1: the length of a new shop", u.strikes(0, 0, 1), '-');
        u.limits(299, 200);
        Check.due("1: a shorter length", u.strikes(0, 0, 1), 'l');
    }

    private static void gauges() {
        BendTable t = new BendTable();
        Check.badArgument("2: thin", () -> t.gauge(4, 0));
        Check.badArgument("2: thick", () -> t.gauge(61, 0));
        Check.badArgument("2: addition below 0", () -> t.gauge(10, -1));
        Check.badArgument("2: addition of 21", () -> t.gauge(10, 21));
        Check.badArgument("2: far off", () -> t.gauge(NEAR, FAR));
        Check.due("2: the least", t.gauge(5, 0), 0);
        Check.due("2: the most", t.gauge(60, 20), 1);
        for (int i = 2; i < 6; i++) {
            Check.due("2: more", t.gauge(10, i), i);
        }
        Check.full("2: the seventh", () -> t.gauge(10, 1));
        Check.badArgument("2: a bad seventh", () -> t.gauge(4, 1));
    }

    private static void parts() {
        BendTable t = new BendTable();
        Check.noPlace("3: ahead of a gauge", () -> t.part(0, 10, 10, 'x'));
        t.gauge(10, 1);
        Check.noPlace("3: gauge below 0", () -> t.part(-1, 10, 10, 'x'));
        Check.noPlace("3: both wrong", () -> t.part(1, 3, 10, 'q'));
        Check.badArgument("3: narrow", () -> t.part(0, 3, 10, 'x'));
        Check.badArgument("3: wide", () -> t.part(0, 301, 10, 'x'));
        Check.badArgument("3: low", () -> t.part(0, 10, 3, 'x'));
        Check.badArgument("3: high", () -> t.part(0, 10, 301, 'x'));
        Check.badArgument("3: grain z", () -> t.part(0, 10, 10, 'z'));
        Check.badArgument("3: grain X", () -> t.part(0, 10, 10, 'X'));
        Check.due("3: the least", t.part(0, 4, 4, '-'), 0);
        Check.due("3: the most", t.part(0, 300, 300, 'x'), 1);
        for (int i = 2; i < 8; i++) {
            Check.due("3: more", t.part(0, 10, 20, 'y'), i);
        }
        Check.full("3: the ninth", () -> t.part(0, 10, 10, 'x'));
        Check.badArgument("3: a bad ninth", () -> t.part(0, 10, 3, 'x'));
        Check.due("3: its face 0 is wide", t.flatAt(7, 0, 'w'), 10);
        Check.due("3: its face 0 is high", t.flatAt(7, 0, 'h'), 20);
    }

    private static void faces() {
        BendTable t = shop(10, 2, 50, 30, '-');
        Check.due("4: at e", t.face(0, 0, 'e', 5, 20, 7, 'u'), 1);
        Check.due("6: two", t.faces(0), 2);
        Check.due("4: at w", t.face(0, 0, 'w', 0, 30, 8, 'd'), 2);
        Check.due("4: at n", t.face(0, 0, 'n', 10, 40, 9, 'h'), 3);
        Check.due("4: at s", t.face(0, 0, 's', 0, 1, 300, 'u'), 4);
        Check.due("4: at one that hangs", t.face(0, 1, 'e', 20 - 3, 3, 1, 'd'), 5);
        Check.due("4: beside another one", t.face(0, 0, 'e', 25, 5, 7, 'u'), 6);
        Check.due("4: the eighth", t.face(0, 0, 'e', 0, 5, 7, 'u'), 7);
        Check.full("4: the ninth", () -> t.face(0, 0, 's', 1, 1, 7, 'u'));
        Check.badArgument("4: a bad ninth", () -> t.face(0, 0, 's', 1, 1, 0, 'u'));
        Check.notNow("4: a ninth that is taken", () -> t.face(0, 0, 's', 0, 1, 7, 'u'));
        Check.due("6: eight", t.faces(0), 8);
        Check.noPlace("6: no part 1", () -> t.faces(1));
        Check.noPlace("6: no part -1", () -> t.faces(-1));
    }

    private static void facesOutOfReach() {
        BendTable t = shop(10, 2, 50, 30, '-');
        Check.noPlace("4: no part", () -> t.face(1, 0, 'e', 0, 30, 7, 'u'));
        Check.noPlace("4: part below 0", () -> t.face(NEAR, 0, 'e', 0, 30, 7, 'u'));
        Check.noPlace("4: no face", () -> t.face(0, 1, 'e', 0, 30, 7, 'u'));
        Check.noPlace("4: face below 0, and no side", () -> t.face(0, -1, 'q', 0, 30, 7, 'u'));
        Check.badArgument("4: no side", () -> t.face(0, 0, 'q', 0, 30, 7, 'u'));
        Check.badArgument("4: side E", () -> t.face(0, 0, 'E', 0, 30, 7, 'u'));
        Check.badArgument("4: side -", () -> t.face(0, 0, '-', 0, 30, 7, 'u'));
        Check.badArgument("4: no bend", () -> t.face(0, 0, 'e', 0, 30, 7, '-'));
        Check.badArgument("4: distance below 0", () -> t.face(0, 0, 'e', -1, 20, 7, 'u'));
        Check.badArgument("4: no length", () -> t.face(0, 0, 'e', 0, 0, 7, 'u'));
        Check.badArgument("4: longer than e", () -> t.face(0, 0, 'e', 0, 31, 7, 'u'));
        Check.badArgument("4: longer than w", () -> t.face(0, 0, 'w', 1, 30, 7, 'u'));
        Check.badArgument("4: longer than n", () -> t.face(0, 0, 'n', 1, 50, 7, 'u'));
        Check.badArgument("4: longer than s", () -> t.face(0, 0, 's', 50, 1, 7, 'u'));
        Check.badArgument("4: the sum overflows", () -> t.face(0, 0, 'e', FAR, FAR, 7, 'u'));
        Check.badArgument("4: no depth", () -> t.face(0, 0, 'e', 0, 30, 0, 'u'));
        Check.badArgument("4: too deep", () -> t.face(0, 0, 'e', 0, 30, 301, 'u'));
        Check.due("4: nothing hangs", t.faces(0), 1);
        Check.due("4: nothing has grown", t.width(0), 50);
    }

    private static void facesTaken() {
        BendTable t = shop(10, 2, 50, 30, '-');
        t.face(0, 0, 'e', 10, 10, 20, 'u');
        t.face(0, 0, 'w', 10, 10, 20, 'u');
        t.face(0, 0, 'n', 10, 10, 20, 'u');
        t.face(0, 0, 's', 10, 10, 20, 'u');
        Check.notNow("4: by its own side, e", () -> t.face(0, 1, 'w', 0, 10, 5, 'u'));
        Check.notNow("4: by its own side, w", () -> t.face(0, 2, 'e', 0, 10, 5, 'u'));
        Check.notNow("4: by its own side, n", () -> t.face(0, 3, 's', 0, 10, 5, 'u'));
        Check.notNow("4: by its own side, s", () -> t.face(0, 4, 'n', 0, 10, 5, 'u'));
        Check.notNow("4: over the lower end", () -> t.face(0, 0, 'e', 0, 11, 5, 'u'));
        Check.notNow("4: over the upper end", () -> t.face(0, 0, 'e', 19, 11, 5, 'u'));
        Check.notNow("4: within", () -> t.face(0, 0, 'e', 15, 1, 5, 'u'));
        Check.notNow("4: around", () -> t.face(0, 0, 'e', 0, 30, 5, 'u'));
        Check.due("4: up to the lower end", t.face(0, 0, 'e', 0, 10, 5, 'u'), 5);
        Check.due("4: from the upper end on", t.face(0, 0, 'e', 20, 10, 5, 'u'), 6);
        BendTable u = shop(10, 2, 50, 30, '-');
        u.line(0, 1, 0);
        Check.notNow("4: in a line", () -> u.face(0, 0, 'e', 0, 10, 5, 'u'));
        Check.badArgument("4: in a line, without length", () -> u.face(0, 0, 'e', 0, 0, 5, 'u'));
        Check.notNow("5: in a line", () -> u.hole(0, 0, 1, 1, 1, 1));
        Check.badArgument("5: in a line, without margin", () -> u.hole(0, 0, 0, 1, 1, 1));
        u.part(0, 50, 30, '-');
        Check.due("4: another part is in no line", u.face(1, 0, 'e', 0, 10, 5, 'u'), 1);
    }

    private static void holes() {
        BendTable t = shop(10, 2, 50, 30, '-');
        t.face(0, 0, 'e', 5, 20, 7, 'u');
        Check.noPlace("5: no part", () -> t.hole(1, 0, 1, 1, 1, 1));
        Check.noPlace("5: no face", () -> t.hole(0, 2, 1, 1, 1, 1));
        Check.noPlace("5: face below 0, and no margin", () -> t.hole(0, -1, 0, 1, 1, 1));
        Check.badArgument("5: margin at the left", () -> t.hole(0, 0, 0, 1, 1, 1));
        Check.badArgument("5: margin below", () -> t.hole(0, 0, 1, 0, 1, 1));
        Check.badArgument("5: margin at the right", () -> t.hole(0, 0, 1, 1, 49, 1));
        Check.badArgument("5: margin above", () -> t.hole(0, 0, 1, 1, 1, 29));
        Check.badArgument("5: no width", () -> t.hole(0, 0, 1, 1, 0, 1));
        Check.badArgument("5: no height", () -> t.hole(0, 0, 1, 1, 1, 0));
        Check.badArgument("5: the sum overflows", () -> t.hole(0, 0, 2, 2, FAR, FAR));
        Check.badArgument("5: beyond the face that hangs", () -> t.hole(0, 1, 1, 1, 6, 18));
        Check.due("5: as large as can be", t.hole(0, 0, 1, 1, 48, 28), 1);
        Check.due("5: in the face that hangs", t.hole(0, 1, 1, 1, 5, 18), 2);
        Check.due("5: over another one", t.hole(0, 0, 48, 28, 1, 1), 3);
        for (int i = 4; i <= 8; i++) {
            Check.due("5: more", t.hole(0, 0, 1, 1, 1, 1), i);
        }
        Check.full("5: the ninth", () -> t.hole(0, 0, 1, 1, 1, 1));
        Check.badArgument("5: a bad ninth", () -> t.hole(0, 0, 0, 1, 1, 1));
    }

    private static void at(BendTable t, int face, int x, int y, int w, int h) {
        Check.due("7: x of " + face, t.flatAt(0, face, 'x'), x);
        Check.due("7: y of " + face, t.flatAt(0, face, 'y'), y);
        Check.due("7: width of " + face, t.flatAt(0, face, 'w'), w);
        Check.due("7: height of " + face, t.flatAt(0, face, 'h'), h);
    }

    private static void flat() {
        BendTable t = shop(10, 2, 50, 30, '-');
        t.face(0, 0, 'e', 5, 20, 7, 'u');
        t.face(0, 0, 'w', 6, 21, 8, 'u');
        t.face(0, 0, 'n', 7, 22, 9, 'u');
        t.face(0, 0, 's', 8, 23, 10, 'u');
        t.face(0, 1, 'n', 1, 6, 3, 'u');
        at(t, 0, 0, 0, 50, 30);
        at(t, 1, 52, 5, 7, 20);
        at(t, 2, -10, 6, 8, 21);
        at(t, 3, 7, 32, 22, 9);
        at(t, 4, 8, -12, 23, 10);
        at(t, 5, 53, 27, 6, 3);
        Check.badArgument("7: no such thing", () -> t.flatAt(0, 0, 'z'));
        Check.noPlace("7: no face, no thing", () -> t.flatAt(0, 6, 'z'));
        Check.noPlace("7: face below 0", () -> t.flatAt(0, -1, 'x'));
        Check.noPlace("7: no part", () -> t.flatAt(1, 0, 'x'));
        Check.due("8: from -10 to 59", t.width(0), 69);
        Check.due("9: from -12 to 41", t.height(0), 53);
        Check.noPlace("8: no part", () -> t.width(1));
        Check.noPlace("9: no part", () -> t.height(-1));
        Check.noPlace("10: no part", () -> t.area(1));
        Check.noPlace("11: no part", () -> t.outline(FAR));
        int strips = 2 * (20 + 21 + 22 + 23 + 6);
        int faces = 1500 + 140 + 168 + 198 + 230 + 18;
        Check.due("10: faces and strips", t.area(0), faces + strips);
        t.hole(0, 0, 10, 10, 5, 6);
        t.hole(0, 0, 12, 12, 5, 6);
        Check.due("10: two holes, each whole", t.area(0), faces + strips - 60);
        // Each face stands out of its side, and adds twice its depth and its strip.
        Check.due("11: outline", t.outline(0), 160 + 2 * (9 + 10 + 11 + 12 + 5));
    }

    private static void cross() {
        BendTable t = shop(10, 0, 10, 10, '-');
        Check.due("11: a face alone", t.outline(0), 40);
        t.face(0, 0, 'e', 0, 10, 10, 'u');
        Check.due("11: no strip between", t.outline(0), 60);
        Check.due("10: no strip between", t.area(0), 200);
        Check.due("8: no strip between", t.width(0), 20);
        t.face(0, 0, 'w', 0, 10, 10, 'u');
        t.face(0, 0, 'n', 0, 10, 10, 'u');
        t.face(0, 0, 's', 0, 10, 10, 'u');
        Check.due("11: a cross", t.outline(0), 120);
        Check.due("10: a cross", t.area(0), 500);
        // One at the side of another: it touches the neighbour without a bend, and closes the corner.
        t.face(0, 1, 'n', 0, 10, 10, 'u');
        Check.due("11: a corner filled", t.outline(0), 120);
        Check.due("14: what touches does not overlap", t.hasFault(0, 'o'), false);
    }

    /** A ring of eight faces around an empty place. */
    private static void ring() {
        BendTable t = shop(10, 0, 10, 10, '-');
        t.face(0, 0, 'e', 0, 10, 10, 'u');
        t.face(0, 1, 'e', 0, 10, 10, 'u');
        t.face(0, 2, 'n', 0, 10, 10, 'u');
        t.face(0, 3, 'n', 0, 10, 10, 'u');
        t.face(0, 4, 'w', 0, 10, 10, 'u');
        t.face(0, 5, 'w', 0, 10, 10, 'u');
        t.face(0, 6, 's', 0, 10, 10, 'u');
        Check.due("11: outside and inside", t.outline(0), 120 + 40);
        Check.due("10: a ring", t.area(0), 800);
        Check.due("8: a ring", t.width(0), 30);
        Check.due("9: a ring", t.height(0), 30);
        Check.due("14: a ring is flat", t.hasFault(0, 'o'), false);
    }

    private static void overlap() {
        BendTable t = shop(10, 2, 20, 20, '-');
        t.face(0, 0, 'e', 0, 20, 10, 'u');
        t.face(0, 0, 'n', 0, 20, 10, 'u');
        t.face(0, 1, 'n', 0, 10, 12, 'd');
        Check.due("14: beside each other", t.hasFault(0, 'o'), false);
        Check.due("13: no fault yet", t.faults(0), 0);
        // From 32, 22 on to the west, over the strip at 20 and the face up there.
        t.face(0, 3, 'w', 4, 1, 5, 'd');
        Check.due("14: over another face", t.hasFault(0, 'o'));
        Check.due("13: that fault", t.faults(0) >= 1);
        Check.due("10: what lies twice counts once", t.area(0), 400 + 40 + 200 + 40 + 200 + 20 + 120 + 2);
        BendTable u = shop(10, 3, 20, 20, '-');
        u.face(0, 0, 'e', 0, 10, 10, 'u');
        u.face(0, 0, 'e', 12, 8, 10, 'u');
        Check.due("14: two at a side", u.hasFault(0, 'o'), false);
        u.face(0, 1, 'n', 0, 10, 1, 'd');
        Check.due("14: its strip lies in the other", u.hasFault(0, 'o'));
        Check.noPlace("14: no part", () -> u.hasFault(1, 'o'));
        Check.noPlace("14: no part and no fault", () -> u.hasFault(1, 'q'));
        Check.badArgument("14: no fault", () -> u.hasFault(0, 'q'));
        Check.noPlace("13: no part", () -> u.faults(1));
    }

    private static void reliefs() {
        BendTable t = shop(10, 2, 50, 30, '-');
        Check.due("12: none", t.reliefs(0), 0);
        t.face(0, 0, 'e', 0, 30, 7, 'u');
        Check.due("12: of end to end", t.reliefs(0), 0);
        t.face(0, 0, 'w', 1, 29, 7, 'u');
        Check.due("12: at the lower end", t.reliefs(0), 1);
        t.face(0, 0, 'n', 0, 49, 7, 'h');
        Check.due("12: at the right end", t.reliefs(0), 2);
        t.face(0, 0, 's', 1, 48, 7, 'd');
        Check.due("12: at both", t.reliefs(0), 4);
        t.face(0, 4, 'e', 2, 3, 7, 'd');
        Check.due("12: at both of a face that hangs", t.reliefs(0), 6);
        Check.noPlace("12: no part", () -> t.reliefs(1));
    }

    private static void holeFault(String name, BendTable t, boolean want) {
        Check.due("14: a hole " + name, t.hasFault(0, 'h'), want);
        Check.due("13: a hole " + name, t.faults(0), want ? 1 : 0);
    }

    private static BendTable bentAt(char side, int thickness) {
        BendTable t = shop(thickness, 2, 40, 40, '-');
        t.face(0, 0, side, 0, 1, 20, 'u');
        return t;
    }

    private static void holeFaults() {
        // Three thicknesses of 1.1 are 3.3: 3 is nearer, 4 is not. A bend of any length counts.
        char[] sides = {'e', 'w', 'n', 's'};
        for (char side : sides) {
            for (int gap = 3; gap <= 4; gap++) {
                BendTable t = bentAt(side, 11);
                int x = side == 'w' ? gap : side == 'e' ? 40 - gap - 2 : 10;
                int y = side == 's' ? gap : side == 'n' ? 40 - gap - 2 : 30 - 10;
                t.hole(0, 0, x, y, 2, 2);
                holeFault(side + " at " + gap, t, gap == 3);
            }
        }
        BendTable even = bentAt('w', 10);
        even.hole(0, 0, 3, 20, 2, 2);
        holeFault("just three thicknesses off", even, false);
        even.hole(0, 0, 1, 1, 1, 1);
        holeFault("nearer", even, true);
        BendTable other = bentAt('w', 60);
        other.hole(0, 0, 39 - 1, 1, 1, 1);
        holeFault("at a side without bend", other, false);
        BendTable own = bentAt('e', 10);
        own.face(0, 0, 'n', 0, 40, 20, 'u');
        own.hole(0, 2, 20, 17, 2, 2);
        holeFault("far from its own side", own, false);
        own.hole(0, 2, 20, 2, 2, 2);
        holeFault("near its own side", own, true);
    }

    private static void meetingFaults() {
        BendTable t = shop(10, 0, 40, 40, '-');
        t.face(0, 0, 'e', 0, 40, 10, 'u');
        t.face(0, 1, 'e', 0, 40, 40, 'u');
        t.face(0, 2, 'e', 0, 40, 10, 'u');
        Check.due("14: a tube that just closes", t.hasFault(0, 'c'), false);
        BendTable u = shop(10, 0, 40, 40, '-');
        u.face(0, 0, 'e', 0, 40, 10, 'u');
        u.face(0, 1, 'e', 0, 40, 39, 'u');
        u.face(0, 2, 'e', 0, 40, 11, 'u');
        Check.due("14: through the face 0", u.hasFault(0, 'c'));
        Check.due("13: once", u.faults(0), 1);
        u.hole(0, 0, 38, 1, 1, 1);
        Check.due("13: two kinds", u.faults(0), 2);
        u.hole(0, 0, 38, 3, 1, 1);
        Check.due("13: each kind once", u.faults(0), 2);
        u.face(0, 0, 'n', 0, 40, 10, 'u');
        u.face(0, 0, 's', 0, 40, 10, 'u');
        u.face(0, 1, 'n', 0, 10, 10, 'u');
        u.face(0, 6, 'w', 0, 10, 20, 'd');
        Check.due("13: all three", u.faults(0), 3);
    }
}
