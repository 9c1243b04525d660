/** Shops of which several tests speak. */
final class Shops {
    static final Edge.Build EMPTY = t -> { };
    static final Edge.Build BUSY = Shops::busy;
    static final Edge.Build FULL = Shops::full;

    private Shops() {
    }

    static BendTable of(int thickness, int addition, int width, int height, char grain) {
        BendTable t = new BendTable();
        t.gauge(thickness, addition);
        t.part(0, width, height, grain);
        return t;
    }

    /**
     * 2 gauges; part 0 in no line, of 4 faces with 2 holes; part 1 in all 3 lines; part 2 with the fault 'h'; part 3
     * without a good order; 2 tools; 2 stocks; line 0 is nested, line 1 could be, for line 2 there are too few sheets.
     */
    private static void busy(BendTable t) {
        t.gauge(10, 2);
        t.gauge(20, 0);
        t.part(0, 50, 30, '-');
        t.face(0, 0, 'e', 5, 20, 10, 'u');
        t.face(0, 0, 'w', 0, 30, 10, 'd');
        t.face(0, 1, 'e', 2, 10, 6, 'h');
        t.hole(0, 0, 20, 10, 6, 4);
        t.hole(0, 0, 30, 15, 3, 3);
        t.part(1, 40, 40, 'x');
        t.face(1, 0, 's', 0, 40, 8, 'u');
        t.hole(1, 0, 10, 10, 5, 5);
        t.part(0, 20, 20, '-');
        t.face(2, 0, 'e', 0, 20, 10, 'u');
        t.hole(2, 0, 18, 5, 1, 1);
        t.part(1, 30, 30, 'y');
        t.face(3, 0, 's', 0, 30, 21, 'u');
        t.tool(3, 2);
        t.tool(5, 5);
        t.stock(0, 100, 100, 'x', 2);
        t.stock(1, 90, 120, 'y', 4);
        t.line(1, 3, 1);
        t.line(1, 2, 0);
        t.line(1, 40, 2);
        t.nest(0);
        t.measure(0, 890);
        t.measure(0, 905);
        t.measure(1, 880);
    }

    /**
     * 6 gauges; 8 parts, of which part 0 has 8 faces and 8 holes in no line, part 1 the same in lines, part 2 the
     * fault 'h', part 3 no good order, and the others neither; 6 tools; 10 stocks; 10 lines; 5 measures of gauge 5.
     */
    private static void full(BendTable t) {
        t.gauge(10, 1);
        for (int i = 1; i < 6; i++) {
            t.gauge(10 + i, i);
        }
        tray(t, 0);
        tray(t, 0);
        t.part(0, 20, 20, '-');
        t.face(2, 0, 'e', 0, 20, 10, 'u');
        t.hole(2, 0, 18, 5, 1, 1);
        t.part(0, 30, 30, 'y');
        t.face(3, 0, 's', 0, 30, 21, 'u');
        for (int i = 4; i < 8; i++) {
            t.part(i - 3, 20 + i, 20, 'x');
        }
        for (int i = 0; i < 6; i++) {
            t.tool(1 + i, 2 + i);
        }
        for (int i = 0; i < 10; i++) {
            t.stock(i % 2, 300 + i, 150 - i, i < 5 ? 'x' : 'y', 1 + i);
        }
        for (int i = 0; i < 10; i++) {
            t.line(i % 2 == 0 ? 1 : 4, 1 + i, 9 - i);
        }
        t.nest(0);
        t.nest(3);
        for (int i = 0; i < 6; i++) {
            t.measure(5, 890 + i);
        }
    }

    /** A part with 7 bends that go in any order, and 8 holes. */
    static int tray(BendTable t, int gauge) {
        int part = t.part(gauge, 100, 100, '-');
        t.face(part, 0, 'e', 0, 40, 10, 'u');
        t.face(part, 0, 'e', 60, 40, 10, 'u');
        t.face(part, 0, 'w', 0, 40, 10, 'u');
        t.face(part, 0, 'w', 60, 40, 10, 'u');
        t.face(part, 0, 'n', 2, 40, 10, 'u');
        t.face(part, 0, 'n', 60, 40, 10, 'u');
        t.face(part, 0, 's', 0, 100, 10, 'u');
        for (int i = 0; i < 8; i++) {
            t.hole(part, 0, 10 + 10 * i, 50, 4 + i % 3, 5);
        }
        return part;
    }
}
