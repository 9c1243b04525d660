/** Promises 1 to 6 at their edges: a new object, gauges, parts, faces, holes. */
final class PartEdges {
    private static final int FAR = Edge.FAR;

    // A part of 50 by 30, with a face at each side, and one at the first of these.
    private static final Edge.Build STAR = PartEdges::star;
    // The parts of STAR, of which part 0 is in a line.
    private static final Edge.Build ORDERED = PartEdges::ordered;

    private PartEdges() {
    }

    static void run() {
        newObject();
        newPress();
        gaugeRanges();
        gaugeOrder();
        gaugesTwice();
        partRanges();
        partOrder();
        faceNumbers();
        faceSigns();
        faceStretch();
        faceDepth();
        faceInLine();
        faceAtOwnSide();
        faceOverlap();
        faceOrder();
        faceCount();
        holeNumbers();
        holeMargin();
        holeInLine();
        holeOrder();
        holeCount();
        facesCounted();
    }

    private static void star(BendTable t) {
        t.gauge(10, 1);
        t.part(0, 50, 30, '-');
        t.face(0, 0, 'e', 10, 10, 8, 'u');
        t.face(0, 0, 'w', 10, 10, 8, 'u');
        t.face(0, 0, 'n', 10, 10, 8, 'u');
        t.face(0, 0, 's', 10, 10, 8, 'u');
        t.face(0, 1, 'e', 0, 10, 6, 'u');
    }

    private static void ordered(BendTable t) {
        star(t);
        t.line(0, 1, 0);
    }

    // ---- promise 1

    private static void newObject() {
        Edge.answers("1: no stock", 0, Shops.EMPTY, t -> t.stocks());
        Edge.answers("1: the sum over no parts", 7L, Shops.EMPTY, t -> t.checksum());
        Edge.answers("1: no part and no line is unsound", true, Shops.EMPTY, t -> t.isSound());
        Edge.undefined("1: no line", Shops.EMPTY, t -> t.nestedShare());
        Edge.noPlace("1: no gauge", Shops.EMPTY, t -> t.setting(0));
        Edge.noPlace("1: no part", Shops.EMPTY, t -> t.faces(0));
        Edge.noPlace("1: no stock 0", Shops.EMPTY, t -> t.sheets(0));
        Edge.noPlace("1: no line 0", Shops.EMPTY, t -> t.took(0));
        Edge.answers("1: no tool yet", 0, Shops.EMPTY, t -> t.tool(1, 1));
        Edge.answers("1: no gauge yet", 0, Shops.EMPTY, t -> t.gauge(5, 0));
    }

    private static void newPress() {
        Edge.answers("1: punch, clear height, die and bed", 0, Shops.EMPTY, t -> t.tools(5, 20, 8, 60));
        Edge.answers("1: the punch is no 4", 1, Shops.EMPTY, t -> t.tools(4, 20, 8, 60));
        Edge.answers("1: the clear height is no 21", 1, Shops.EMPTY, t -> t.tools(5, 21, 8, 60));
        Edge.answers("1: the die is no 9", 1, Shops.EMPTY, t -> t.tools(5, 20, 9, 60));
        Edge.answers("1: the bed is no 59", 1, Shops.EMPTY, t -> t.tools(5, 20, 8, 59));
        Edge.answers("1: the force", 200, Shops.EMPTY, t -> t.limits(400, 200));
        // No bend is longer than 300, so that 400 limits none.
        BendTable t = Shops.of(10, 0, 300, 30, '-');
        t.face(0, 0, 'n', 0, 300, 10, 'u');
        Check.due("1: the longest bend of all", t.strikes(0, 0, 1), '-');
        // All of a new press at once: a wall at the punch, one at the die, one at the bed, one at the clear height.
        Check.due("1: a wall at 5 from the line", strike(5, 'u', 21, 3), '-');
        Check.due("1: a wall at 4 from the line", strike(4, 'u', 21, 3), 'p');
        Check.due("1: a wall as high as 20", strike(4, 'u', 20, 3), '-');
        Check.due("1: a wall down at 8 from the line", strike(8, 'd', 9, 3), '-');
        Check.due("1: a wall down at 7 from the line", strike(7, 'd', 9, 3), 'd');
        Check.due("1: a wall down to 60", strike(8, 'd', 60, 3), '-');
        Check.due("1: a wall down to 61", strike(8, 'd', 61, 3), 'b');
        Check.due("1: bent up to 20", strike(50, 'u', 2, 20), '-');
        Check.due("1: bent up to 21", strike(50, 'u', 2, 21), 'p');
    }

    /** What a bend at the east of a face strikes on a new press, a wall standing at its west. */
    private static char strike(int width, char wall, int height, int bent) {
        BendTable t = Shops.of(10, 0, width, 30, '-');
        t.face(0, 0, 'w', 0, 30, height, wall);
        t.face(0, 0, 'e', 0, 30, bent, 'u');
        return t.strikes(0, 2, 2);
    }

    // ---- promise 2

    private static void gaugeRanges() {
        Edge.range("2: thickness", 5, 60, Shops.BUSY, (t, n) -> t.gauge(n, 3));
        Edge.range("2: addition", 0, 20, Shops.BUSY, (t, n) -> t.gauge(10, n));
        Edge.range("2: thickness of the first", 5, 60, Shops.EMPTY, (t, n) -> t.gauge(n, 3));
        for (int addition : new int[] {0, 20}) {
            BendTable t = Shops.of(10, addition, 50, 30, '-');
            t.face(0, 0, 'e', 0, 30, 10, 'u');
            Check.due("2: the strip of an addition of " + addition, t.flatAt(0, 1, 'x'), 50 + addition);
        }
        for (int thickness : new int[] {5, 60}) {
            BendTable t = Shops.of(thickness, 0, 300, 30, '-');
            t.face(0, 0, 'n', 0, 300, 10, 'u');
            t.tools(5, 20, 1, 60);
            Check.due("2: the force of a thickness of " + thickness, t.force(0, 1), thickness == 5 ? 7 : 1080);
        }
    }

    private static void gaugeOrder() {
        BendTable t = new BendTable();
        for (int i = 0; i < 6; i++) {
            Check.due("2: gauge " + i, t.gauge(5 + i, i), i);
        }
        Edge.full("2: 6 are all", Shops.FULL, s -> s.gauge(10, 1));
        Edge.badArgument("2: a bad thickness ahead of 6", Shops.FULL, s -> s.gauge(4, 1));
        Edge.badArgument("2: a bad addition ahead of 6", Shops.FULL, s -> s.gauge(60, 21));
        Edge.badArgument("2: both are bad", Shops.BUSY, s -> s.gauge(61, -1));
    }

    private static void gaugesTwice() {
        BendTable t = new BendTable();
        t.gauge(10, 1);
        Check.due("2: one that is like another one", t.gauge(10, 1), 1);
        t.part(0, 10, 10, '-');
        t.stock(1, 10, 10, 'x', 1);
        Check.due("34: is another one all the same", Edge.answer(t, s -> s.fits(0, 0)),
                UnsupportedOperationException.class);
    }

    // ---- promise 3

    private static void partRanges() {
        Edge.numbers("3: gauge", 0, 1, Shops.BUSY, (t, n) -> t.part(n, 10, 10, 'x'));
        Edge.numbers("3: gauge of none", 0, -1, Shops.EMPTY, (t, n) -> t.part(n, 10, 10, 'x'));
        Edge.range("3: width", 4, 300, Shops.BUSY, (t, n) -> t.part(0, n, 10, '-'));
        Edge.range("3: height", 4, 300, Shops.BUSY, (t, n) -> t.part(1, 10, n, 'y'));
        Edge.signs("3: grain", "xy-", Shops.BUSY, (t, c) -> t.part(0, 10, 10, c));
        BendTable t = Shops.of(10, 1, 4, 300, 'y');
        Check.due("3: face 0 is as wide", t.flatAt(0, 0, 'w'), 4);
        Check.due("3: face 0 is as high", t.flatAt(0, 0, 'h'), 300);
        Check.due("3: face 0 alone", t.faces(0), 1);
        Check.due("3: without a hole", Edge.answer(t, s -> s.toolOf(0, 0)), IndexOutOfBoundsException.class);
    }

    private static void partOrder() {
        BendTable t = new BendTable();
        t.gauge(10, 1);
        for (int i = 0; i < 8; i++) {
            Check.due("3: part " + i, t.part(0, 10, 10, '-'), i);
        }
        Edge.full("3: 8 are all", Shops.FULL, s -> s.part(0, 10, 10, 'x'));
        Edge.noPlace("3: no gauge ahead of a bad width", Shops.BUSY, s -> s.part(2, 3, 10, 'x'));
        Edge.noPlace("3: no gauge ahead of a bad height", Shops.BUSY, s -> s.part(-1, 10, 301, 'x'));
        Edge.noPlace("3: no gauge ahead of a bad grain", Shops.BUSY, s -> s.part(2, 10, 10, 'z'));
        Edge.noPlace("3: no gauge ahead of 8", Shops.FULL, s -> s.part(6, 10, 10, 'x'));
        Edge.noPlace("3: no gauge ahead of all", Shops.FULL, s -> s.part(6, 3, 3, 'z'));
        Edge.badArgument("3: a bad width ahead of 8", Shops.FULL, s -> s.part(0, 3, 10, 'x'));
        Edge.badArgument("3: a bad height ahead of 8", Shops.FULL, s -> s.part(0, 10, 301, 'x'));
        Edge.badArgument("3: a bad grain ahead of 8", Shops.FULL, s -> s.part(0, 10, 10, 'X'));
    }

    // ---- promise 4

    private static void faceNumbers() {
        Edge.numbers("4: part", 0, 3, Shops.BUSY, (t, n) -> t.face(n, 0, 'n', 0, 10, 5, 'u'));
        Edge.numbers("4: part of none", 0, -1, Shops.EMPTY, (t, n) -> t.face(n, 0, 'n', 0, 10, 5, 'u'));
        Edge.numbers("4: face", 0, 3, Shops.BUSY, (t, n) -> t.face(0, n, 'n', 0, 5, 5, 'u'));
        Edge.numbers("4: face of another part", 0, 1, Shops.BUSY, (t, n) -> t.face(3, n, 'e', 0, 5, 5, 'u'));
    }

    private static void faceSigns() {
        Edge.signs("4: side", "nesw", Shops.BUSY, (t, c) -> t.face(3, 0, c, 0, 5, 5, 'u'));
        Edge.signs("4: bend", "udh", Shops.BUSY, (t, c) -> t.face(3, 0, 'n', 0, 5, 5, c));
    }

    private static void faceStretch() {
        // Sides n and s are as long as the width of 50, e and w as the height of 30, without faces at 0 to 10.
        for (char side : "nesw".toCharArray()) {
            int whole = side == 'n' || side == 's' ? 50 : 30;
            String name = "4: at " + side + ", ";
            Edge.range(name + "length from 0", 1, whole, PartEdges::bare, (t, n) -> t.face(0, 0, side, 0, n, 5, 'u'));
            Edge.range(name + "length from 7", 1, whole - 7, PartEdges::bare,
                    (t, n) -> t.face(0, 0, side, 7, n, 5, 'u'));
            Edge.range(name + "distance", 0, whole - 1, PartEdges::bare, (t, n) -> t.face(0, 0, side, n, 1, 5, 'u'));
            Edge.range(name + "distance of 6", 0, whole - 6, PartEdges::bare,
                    (t, n) -> t.face(0, 0, side, n, 6, 5, 'u'));
            Edge.badArgument(name + "the sum wraps around", PartEdges::bare,
                    t -> t.face(0, 0, side, FAR, FAR, 5, 'u'));
            Edge.badArgument(name + "the sum wraps around by 1", PartEdges::bare,
                    t -> t.face(0, 0, side, 1, FAR, 5, 'u'));
            Edge.badArgument(name + "the sum wraps around to 1", PartEdges::bare,
                    t -> t.face(0, 0, side, FAR, FAR + 3, 5, 'u'));
        }
        // Of a face that hangs, the sides are as long as its own width of 8 and height of 10.
        Edge.range("4: at n of one that hangs", 1, 8, STAR, (t, n) -> t.face(0, 1, 'n', 0, n, 5, 'u'));
        Edge.range("4: at s of one that hangs", 1, 8, STAR, (t, n) -> t.face(0, 1, 's', 0, n, 5, 'u'));
        Edge.range("4: at e of one that hangs", 1, 8, STAR, (t, n) -> t.face(0, 3, 'e', 0, n, 5, 'u'));
        Edge.range("4: at n of one that hangs at n", 1, 10, STAR, (t, n) -> t.face(0, 3, 'n', 0, n, 5, 'u'));
    }

    private static void bare(BendTable t) {
        t.gauge(10, 1);
        t.part(0, 50, 30, '-');
    }

    private static void faceDepth() {
        Edge.range("4: depth", 1, 300, Shops.BUSY, (t, n) -> t.face(0, 0, 'n', 0, 10, n, 'u'));
        for (int depth : new int[] {1, 300}) {
            for (char side : "nesw".toCharArray()) {
                BendTable t = Edge.built(PartEdges::bare);
                t.face(0, 0, side, 3, 4, depth, 'u');
                boolean isUpright = side == 'e' || side == 'w';
                Check.due("4: the width at " + side, t.flatAt(0, 1, 'w'), isUpright ? depth : 4);
                Check.due("4: the height at " + side, t.flatAt(0, 1, 'h'), isUpright ? 4 : depth);
            }
        }
    }

    private static void faceInLine() {
        Edge.notNow("4: in a line", ORDERED, t -> t.face(0, 0, 'n', 0, 10, 5, 'u'));
        Edge.notNow("4: in a nested line", Shops.BUSY, t -> t.face(1, 0, 'n', 0, 10, 5, 'u'));
        Edge.notNow("4: in a line, as a face at a face that hangs", ORDERED, t -> t.face(0, 5, 'e', 0, 1, 5, 'u'));
        Edge.answers("4: another part is in a line", 4, Shops.BUSY, t -> t.face(0, 0, 'n', 0, 10, 5, 'u'));
        Edge.answers("4: a line was refused to it", 2, Shops.BUSY, t -> {
            Check.due("33: a part with a fault", Edge.answer(t, s -> s.line(2, 1, 0)),
                    UnsupportedOperationException.class);
            return t.face(2, 0, 'n', 0, 10, 5, 'u');
        });
    }

    private static void faceAtOwnSide() {
        String sides = "ewns";
        String own = "wesn";
        for (int i = 0; i < 4; i++) {
            int face = i + 1;
            for (int j = 0; j < 4; j++) {
                char side = sides.charAt(j);
                String name = "4: at " + side + " of one that hangs at " + sides.charAt(i);
                // Face 1 has face 5 at its side e.
                if (side == own.charAt(i) || (i == 0 && side == 'e')) {
                    Edge.notNow(name, STAR, t -> t.face(0, face, side, 0, 1, 5, 'u'));
                } else {
                    Edge.answers(name, 6, STAR, t -> t.face(0, face, side, 0, 1, 5, 'u'));
                }
            }
        }
    }

    private static void faceOverlap() {
        for (char side : "nesw".toCharArray()) {
            String name = "4: at " + side + " where one hangs from 10 to 20, ";
            Edge.answers(name + "up to 10", 6, STAR, t -> t.face(0, 0, side, 9, 1, 5, 'u'));
            Edge.answers(name + "all up to 10", 6, STAR, t -> t.face(0, 0, side, 0, 10, 5, 'u'));
            Edge.answers(name + "from 20 on", 6, STAR, t -> t.face(0, 0, side, 20, 1, 5, 'u'));
            Edge.answers(name + "all from 20 on", 6, STAR, t -> t.face(0, 0, side, 20, 10, 5, 'u'));
            Edge.notNow(name + "from 9 to 11", STAR, t -> t.face(0, 0, side, 9, 2, 5, 'u'));
            Edge.notNow(name + "from 19 to 20", STAR, t -> t.face(0, 0, side, 19, 1, 5, 'u'));
            Edge.notNow(name + "from 10 to 11", STAR, t -> t.face(0, 0, side, 10, 1, 5, 'u'));
            Edge.notNow(name + "from 0 to 11", STAR, t -> t.face(0, 0, side, 0, 11, 5, 'u'));
            Edge.notNow(name + "from 19 to 30", STAR, t -> t.face(0, 0, side, 19, 11, 5, 'u'));
            Edge.notNow(name + "the same", STAR, t -> t.face(0, 0, side, 10, 10, 5, 'u'));
            Edge.notNow(name + "around it", STAR, t -> t.face(0, 0, side, 0, 30, 5, 'u'));
        }
        Edge.answers("4: the same lengths at another face", 6, STAR, t -> t.face(0, 5, 'e', 0, 10, 5, 'u'));
        // The second one at a side counts, too.
        Edge.notNow("4: over the second one", Shops.FULL, t -> t.face(0, 0, 'e', 99, 1, 5, 'u'));
        Edge.notNow("4: over the first one", Shops.FULL, t -> t.face(0, 0, 'e', 39, 1, 5, 'u'));
    }

    private static void faceOrder() {
        Edge.noPlace("4: no part ahead of no side", Shops.BUSY, t -> t.face(4, 0, 'q', 0, 10, 5, 'u'));
        Edge.noPlace("4: no face ahead of no bend", Shops.BUSY, t -> t.face(0, 4, 'n', 0, 10, 5, 'q'));
        Edge.noPlace("4: no face ahead of a bad depth", Shops.BUSY, t -> t.face(0, -1, 'n', 0, 10, 0, 'u'));
        Edge.noPlace("4: no face ahead of a line", Shops.BUSY, t -> t.face(1, 2, 'n', 0, 10, 5, 'u'));
        Edge.noPlace("4: no face ahead of 8", Shops.FULL, t -> t.face(0, 8, 'n', 0, 1, 5, 'u'));
        Edge.noPlace("4: no face ahead of all", Shops.FULL, t -> t.face(1, 8, 'q', -1, 0, 0, 'q'));
        badAheadOf("a line", Shops.BUSY, 1, 0, 'n');
        badAheadOf("its own side", STAR, 0, 1, 'w');
        badAheadOf("an overlap", STAR, 0, 0, 'e');
        badAheadOf("8", Shops.FULL, 0, 0, 'n');
        Edge.notNow("4: a line ahead of 8", Shops.FULL, t -> t.face(1, 0, 'n', 42, 1, 5, 'u'));
        Edge.notNow("4: its own side ahead of 8", Shops.FULL, t -> t.face(0, 1, 'w', 0, 1, 5, 'u'));
        Edge.notNow("4: an overlap ahead of 8", Shops.FULL, t -> t.face(0, 0, 'n', 41, 2, 5, 'u'));
        Edge.full("4: 8 alone", Shops.FULL, t -> t.face(0, 0, 'n', 42, 1, 5, 'u'));
        Edge.full("4: 8 alone, at a face that hangs", Shops.FULL, t -> t.face(0, 1, 'e', 0, 1, 5, 'u'));
    }

    /** What is bad by itself comes ahead of what a side, a line, or a number of faces refuses. */
    private static void badAheadOf(String what, Edge.Build build, int part, int of, char side) {
        Edge.badArgument("4: no bend ahead of " + what, build, t -> t.face(part, of, side, 0, 10, 5, 'q'));
        Edge.badArgument("4: distance below 0 ahead of " + what, build,
                t -> t.face(part, of, side, -1, 10, 5, 'u'));
        Edge.badArgument("4: no length ahead of " + what, build, t -> t.face(part, of, side, 0, 0, 5, 'u'));
        Edge.badArgument("4: longer than the side ahead of " + what, build,
                t -> t.face(part, of, side, 0, 101, 5, 'u'));
        Edge.badArgument("4: a depth of 0 ahead of " + what, build, t -> t.face(part, of, side, 0, 10, 0, 'u'));
        Edge.badArgument("4: a depth of 301 ahead of " + what, build,
                t -> t.face(part, of, side, 0, 10, 301, 'u'));
        Edge.badArgument("4: no side ahead of " + what, build, t -> t.face(part, of, 'q', 0, 10, 5, 'u'));
    }

    private static void faceCount() {
        BendTable t = Edge.built(PartEdges::bare);
        for (int i = 1; i < 8; i++) {
            Check.due("4: face " + i, t.face(0, i - 1, 'e', 0, 30, 5, 'u'), i);
            Check.due("6: with face " + i, t.faces(0), i + 1);
        }
        Check.due("4: 8 at most", Edge.answer(t, s -> s.face(0, 7, 'e', 0, 30, 5, 'u')), IllegalStateException.class);
        t.part(0, 10, 10, '-');
        Check.due("4: each part has its own", t.face(1, 0, 'e', 0, 10, 5, 'u'), 1);
    }

    // ---- promise 5

    private static void holeNumbers() {
        Edge.numbers("5: part", 0, 3, Shops.BUSY, (t, n) -> t.hole(n, 0, 1, 1, 1, 1));
        Edge.numbers("5: part of none", 0, -1, Shops.EMPTY, (t, n) -> t.hole(n, 0, 1, 1, 1, 1));
        Edge.numbers("5: face", 0, 3, Shops.BUSY, (t, n) -> t.hole(0, n, 1, 1, 1, 1));
        Edge.numbers("5: face of another part", 0, 1, Shops.BUSY, (t, n) -> t.hole(3, n, 1, 1, 1, 1));
    }

    private static void holeMargin() {
        // Face 0 of part 0 is 50 by 30, face 1 is 10 by 20.
        Edge.range("5: left end", 1, 48, Shops.BUSY, (t, n) -> t.hole(0, 0, n, 5, 1, 1));
        Edge.range("5: lower end", 1, 28, Shops.BUSY, (t, n) -> t.hole(0, 0, 5, n, 1, 1));
        Edge.range("5: left end of one 7 wide", 1, 42, Shops.BUSY, (t, n) -> t.hole(0, 0, n, 5, 7, 1));
        Edge.range("5: lower end of one 7 high", 1, 22, Shops.BUSY, (t, n) -> t.hole(0, 0, 5, n, 1, 7));
        Edge.range("5: width", 1, 48, Shops.BUSY, (t, n) -> t.hole(0, 0, 1, 1, n, 28));
        Edge.range("5: height", 1, 28, Shops.BUSY, (t, n) -> t.hole(0, 0, 1, 1, 48, n));
        Edge.range("5: width in a face that hangs", 1, 8, Shops.BUSY, (t, n) -> t.hole(0, 1, 1, 1, n, 18));
        Edge.range("5: height in a face that hangs", 1, 18, Shops.BUSY, (t, n) -> t.hole(0, 1, 1, 1, 8, n));
        Edge.badArgument("5: x and the width wrap around", Shops.BUSY, t -> t.hole(0, 0, FAR, 5, FAR, 1));
        Edge.badArgument("5: y and the height wrap around", Shops.BUSY, t -> t.hole(0, 0, 5, FAR, 1, FAR));
        Edge.badArgument("5: x and the width wrap around by 1", Shops.BUSY, t -> t.hole(0, 0, 1, 5, FAR, 1));
        Edge.badArgument("5: y and the height wrap around by 1", Shops.BUSY, t -> t.hole(0, 0, 5, 1, 1, FAR));
        // A face 1 deep, or 2, has no place for a hole and its margins.
        BendTable t = Edge.built(PartEdges::bare);
        t.face(0, 0, 'e', 0, 30, 2, 'u');
        t.face(0, 0, 'w', 0, 30, 3, 'u');
        Check.due("5: in a face 2 wide", Edge.answer(t, s -> s.hole(0, 1, 1, 1, 1, 1)),
                IllegalArgumentException.class);
        Check.due("5: in a face 3 wide", t.hole(0, 2, 1, 1, 1, 28), 1);
    }

    private static void holeInLine() {
        Edge.notNow("5: in a line", ORDERED, t -> t.hole(0, 0, 20, 10, 1, 1));
        Edge.notNow("5: in a nested line", Shops.BUSY, t -> t.hole(1, 0, 20, 10, 1, 1));
        Edge.notNow("5: in a line, at a face that hangs", ORDERED, t -> t.hole(0, 1, 4, 4, 1, 1));
        Edge.answers("5: another part is in a line", 3, Shops.BUSY, t -> t.hole(0, 0, 1, 1, 1, 1));
    }

    private static void holeOrder() {
        Edge.noPlace("5: no part ahead of no margin", Shops.BUSY, t -> t.hole(4, 0, 0, 1, 1, 1));
        Edge.noPlace("5: no face ahead of no margin", Shops.BUSY, t -> t.hole(0, 4, 0, 1, 1, 1));
        Edge.noPlace("5: no face ahead of no width", Shops.BUSY, t -> t.hole(0, -1, 1, 1, 0, 1));
        Edge.noPlace("5: no face ahead of a line", Shops.BUSY, t -> t.hole(1, 2, 1, 1, 1, 1));
        Edge.noPlace("5: no face ahead of 8", Shops.FULL, t -> t.hole(0, 8, 1, 1, 1, 1));
        Edge.noPlace("5: no face ahead of all", Shops.FULL, t -> t.hole(1, 8, 0, 0, 0, 0));
        Edge.badArgument("5: no margin ahead of a line", Shops.BUSY, t -> t.hole(1, 0, 0, 1, 1, 1));
        Edge.badArgument("5: no width ahead of a line", Shops.BUSY, t -> t.hole(1, 0, 1, 1, 0, 1));
        Edge.badArgument("5: no height ahead of a line", Shops.BUSY, t -> t.hole(1, 0, 1, 1, 1, 0));
        Edge.badArgument("5: no margin ahead of 8", Shops.FULL, t -> t.hole(0, 0, 1, 99, 1, 1));
        Edge.badArgument("5: no height ahead of 8", Shops.FULL, t -> t.hole(0, 0, 1, 1, 1, 0));
        Edge.notNow("5: a line ahead of 8", Shops.FULL, t -> t.hole(1, 0, 1, 1, 1, 1));
        Edge.full("5: 8 alone", Shops.FULL, t -> t.hole(0, 0, 1, 1, 1, 1));
        Edge.full("5: 8 alone, in a face without a hole", Shops.FULL, t -> t.hole(0, 1, 1, 1, 1, 1));
    }

    private static void holeCount() {
        BendTable t = Edge.built(STAR);
        for (int i = 1; i <= 8; i++) {
            int face = i % 2;
            Check.due("5: hole " + i + " of the part", t.hole(0, face, 1, 1, 2, 2), i);
            Check.due("25: it is there", t.toolOf(0, i - 1), -1);
        }
        Check.due("5: 8 at most", Edge.answer(t, s -> s.hole(0, 3, 1, 1, 1, 1)), IllegalStateException.class);
        t.part(0, 10, 10, '-');
        Check.due("5: each part has its own", t.hole(1, 0, 1, 1, 1, 1), 1);
    }

    // ---- promise 6

    private static void facesCounted() {
        Edge.numbers("6: part", 0, 3, Shops.BUSY, (t, n) -> t.faces(n));
        Edge.numbers("6: part of none", 0, -1, Shops.EMPTY, (t, n) -> t.faces(n));
        Edge.answers("6: face 0 alone", 1, PartEdges::bare, t -> t.faces(0));
        Edge.answers("6: 8", 8, Shops.FULL, t -> t.faces(0));
    }
}
