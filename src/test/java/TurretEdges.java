/** Promises 24 to 28 at their edges: tools, hits, and the times of a piece. */
final class TurretEdges {
    private TurretEdges() {
    }

    static void run() {
        toolRanges();
        toolOrder();
        holeNumbers();
        partNumbers();
        toolAsLargeAsHole();
        hitsRoundedUp();
        lowestOfSeveral();
        emptyTurret();
        fullTurret();
        outlineBegun();
        toolsOnce();
        pressTimes();
    }

    private static void toolRanges() {
        Edge.range("24: width", 1, 60, Shops.BUSY, (t, n) -> t.tool(n, 5));
        Edge.range("24: height", 1, 60, Shops.BUSY, (t, n) -> t.tool(5, n));
        Edge.range("24: width of the first", 1, 60, Shops.EMPTY, (t, n) -> t.tool(n, 5));
    }

    private static void toolOrder() {
        BendTable t = new BendTable();
        for (int i = 0; i < 6; i++) {
            Check.due("24: tool " + i, t.tool(5, 5), i);
        }
        Edge.full("24: 6 are all", Shops.FULL, s -> s.tool(5, 5));
        Edge.badArgument("24: a bad width ahead of 6", Shops.FULL, s -> s.tool(0, 5));
        Edge.badArgument("24: a bad height ahead of 6", Shops.FULL, s -> s.tool(5, 61));
    }

    private static void holeNumbers() {
        Edge.numbers("25: part", 0, 3, Shops.BUSY, (t, n) -> {
            // Part 3 has no hole: only the others have one with the number 0.
            return n == 3 ? 0 : t.toolOf(n, 0);
        });
        Edge.numbers("25: part of none", 0, -1, Shops.EMPTY, (t, n) -> t.toolOf(n, 0));
        Edge.numbers("25: hole", 0, 1, Shops.BUSY, (t, n) -> t.toolOf(0, n));
        Edge.numbers("25: hole of 8", 0, 7, Shops.FULL, (t, n) -> t.toolOf(0, n));
        Edge.numbers("25: hole of none", 0, -1, Shops.BUSY, (t, n) -> t.toolOf(3, n));
    }

    private static void partNumbers() {
        Edge.numbers("26: part", 0, 3, Shops.BUSY, (t, n) -> t.hits(n));
        Edge.numbers("26: part of none", 0, -1, Shops.EMPTY, (t, n) -> t.hits(n));
        Edge.numbers("27: part", 0, 3, Shops.BUSY, (t, n) -> t.flatTime(n));
        Edge.numbers("27: part of none", 0, -1, Shops.EMPTY, (t, n) -> t.flatTime(n));
        Edge.numbers("28: part", 0, 3, Shops.BUSY, (t, n) -> t.pressTime(n));
        Edge.numbers("28: part of none", 0, -1, Shops.EMPTY, (t, n) -> t.pressTime(n));
    }

    private static BendTable holed(int width, int height) {
        BendTable t = Shops.of(10, 0, 100, 100, '-');
        t.hole(0, 0, 10, 10, width, height);
        return t;
    }

    private static void toolAsLargeAsHole() {
        BendTable t = holed(20, 8);
        t.tool(21, 8);
        Check.due("25: wider by 1", t.toolOf(0, 0), -1);
        t.tool(20, 9);
        Check.due("25: higher by 1", t.toolOf(0, 0), -1);
        t.tool(8, 20);
        Check.due("25: tools are not turned", t.toolOf(0, 0), -1);
        Check.due("26: cut, without hits", t.hits(0), 0);
        t.tool(20, 8);
        Check.due("25: just as large", t.toolOf(0, 0), 3);
        Check.due("26: just as large", t.hits(0), 1);
    }

    private static int hits(int holeWidth, int holeHeight, int toolWidth, int toolHeight) {
        BendTable t = holed(holeWidth, holeHeight);
        t.tool(toolWidth, toolHeight);
        return t.hits(0);
    }

    private static void hitsRoundedUp() {
        Check.due("26: twice beside each other", hits(20, 8, 10, 8), 2);
        Check.due("26: and 1 more", hits(21, 8, 10, 8), 3);
        Check.due("26: and 1 less", hits(19, 8, 10, 8), 2);
        Check.due("26: twice above each other", hits(20, 8, 20, 4), 2);
        Check.due("26: and 1 higher", hits(20, 9, 20, 4), 3);
        Check.due("26: and 1 lower", hits(20, 7, 20, 4), 2);
        Check.due("26: both rounded up ahead of the product", hits(21, 9, 10, 4), 9);
        Check.due("26: the least tool", hits(80, 80, 1, 1), 6400);
        Check.due("26: the largest tool", hits(60, 60, 60, 60), 1);
        Check.due("26: the largest tool, and 1 more", hits(61, 61, 60, 60), 4);
    }

    private static void lowestOfSeveral() {
        BendTable t = holed(20, 8);
        t.tool(5, 8);
        t.tool(20, 2);
        Check.due("25: of two with 4 hits the lowest", t.toolOf(0, 0), 0);
        t.tool(10, 8);
        Check.due("25: fewer hits", t.toolOf(0, 0), 2);
        t.tool(20, 4);
        t.tool(11, 7);
        Check.due("25: of two with 2 hits the lowest", t.toolOf(0, 0), 2);
        Check.due("26: 2 hits", t.hits(0), 2);
        t.tool(20, 8);
        Check.due("25: the last one", t.toolOf(0, 0), 5);
    }

    private static void emptyTurret() {
        BendTable t = holed(1, 1);
        Check.due("25: without tools", t.toolOf(0, 0), -1);
        Check.due("26: without tools", t.hits(0), 0);
        Check.due("27: without tools", t.flatTime(0), 9);
        Check.due("26: without holes", Shops.of(10, 0, 100, 100, '-').hits(0), 0);
    }

    private static void fullTurret() {
        // The holes are 4 to 6 wide and 5 high, the tools 1 by 2 up to 6 by 7.
        for (int i = 0; i < 8; i++) {
            int hole = i;
            Edge.answers("25: hole " + i + " of 8", 3, Shops.FULL, t -> t.toolOf(0, hole));
        }
        // One hit for those 4 wide, two for the others.
        Edge.answers("26: of 8 holes", 3 + 2 * 5, Shops.FULL, t -> t.hits(0));
    }

    private static void outlineBegun() {
        Check.due("27: 50 is 1", Shops.of(10, 0, 20, 5, '-').flatTime(0), 1);
        Check.due("27: 52 is 2", Shops.of(10, 0, 20, 6, '-').flatTime(0), 2);
        Check.due("27: 48 is 1", Shops.of(10, 0, 20, 4, '-').flatTime(0), 1);
        Check.due("27: 16 is 1", Shops.of(10, 0, 4, 4, '-').flatTime(0), 1);
        Check.due("27: 1200 is 24", Shops.of(10, 0, 300, 300, '-').flatTime(0), 24);
        // The outline of 110 would be 3, the edges of 10 would be 1 each: together they are 120, and 150, and 160.
        BendTable t = Shops.of(10, 0, 30, 25, '-');
        int[] want = {3, 3, 3, 3, 4};
        for (int i = 0; i < 5; i++) {
            t.hole(0, 0, 2, 2, 3, 2);
            Check.due("27: outline and edges together, " + (110 + 10 * (i + 1)), t.flatTime(0), want[i]);
        }
    }

    private static void toolsOnce() {
        BendTable t = Shops.of(10, 0, 100, 100, '-');
        t.tool(5, 5);
        t.tool(9, 2);
        Check.due("27: tools without a hole take no time", t.flatTime(0), 8);
        t.hole(0, 0, 10, 10, 5, 5);
        Check.due("27: a hit and a tool", t.flatTime(0), 8 + 1 + 5);
        t.hole(0, 0, 20, 20, 10, 5);
        Check.due("27: 2 hits more with the same tool", t.flatTime(0), 8 + 3 + 5);
        t.hole(0, 0, 40, 40, 9, 2);
        Check.due("27: a hit with the other tool", t.flatTime(0), 8 + 4 + 10);
        t.hole(0, 0, 60, 60, 1, 1);
        Check.due("27: another one is cut", t.flatTime(0), 9 + 4 + 10);
    }

    private static void pressTimes() {
        Edge.answers("28: without bends", 0, Shops.FULL, t -> t.pressTime(4));
        Edge.answers("28: 7 bends, turned about once", 7 * 6 + 2, Shops.FULL, t -> t.pressTime(0));
        Edge.nothing("28: no good order", Shops.FULL, t -> t.pressTime(3));
        BendTable t = Shops.of(10, 0, 50, 30, '-');
        t.face(0, 0, 'e', 0, 30, 5, 'h');
        Check.due("28: a hem", t.pressTime(0), 12);
        t.face(0, 0, 's', 0, 50, 5, 'd');
        Check.due("28: a hem, and over and about to a bend", t.pressTime(0), 12 + 6 + 8);
        t.face(0, 0, 'w', 0, 30, 5, 'h');
        Check.due("28: two hems", t.pressTime(0), 24 + 6 + 8);
    }
}
