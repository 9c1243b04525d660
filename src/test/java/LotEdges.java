/** Promises 38 to 42 at their edges: angles, lots, and prices. */
final class LotEdges {
    private LotEdges() {
    }

    static void run() {
        measureRanges();
        measuresCounted();
        settingEdges();
        lineNumbers();
        notNested();
        noGoodOrderByNow();
        endOfDay();
        dueDays();
        turnOfLines();
        pressWaits();
        linesAside();
        priceEdges();
        priceLater();
    }

    // ---- promises 38 and 39

    private static void measureRanges() {
        Edge.numbers("38: gauge", 0, 1, Shops.BUSY, (t, n) -> t.measure(n, 900));
        Edge.numbers("38: gauge of none", 0, -1, Shops.EMPTY, (t, n) -> t.measure(n, 900));
        Edge.numbers("38: gauge of 6", 0, 5, Shops.FULL, (t, n) -> t.measure(n, 900));
        Edge.range("38: tenths", 300, 1200, Shops.BUSY, (t, n) -> t.measure(0, n));
        Edge.range("38: tenths, 5 being told", 300, 1200, Shops.FULL, (t, n) -> t.measure(5, n));
        Edge.noPlace("38: no gauge ahead of bad tenths", Shops.BUSY, t -> t.measure(2, 299));
        Edge.noPlace("38: no gauge below 0 ahead of bad tenths", Shops.BUSY, t -> t.measure(-1, 1201));
        Edge.numbers("39: gauge", 0, 1, Shops.BUSY, (t, n) -> t.setting(n));
        Edge.numbers("39: gauge of none", 0, -1, Shops.EMPTY, (t, n) -> t.setting(n));
        Edge.numbers("39: gauge of 6", 0, 5, Shops.FULL, (t, n) -> t.setting(n));
    }

    private static void measuresCounted() {
        BendTable t = new BendTable();
        t.gauge(10, 1);
        t.gauge(10, 1);
        int[] count = {1, 2, 3, 4, 5, 5, 5, 5, 5, 5, 5, 5};
        // Of 900, 890, 880 and so on the last 5 are off by 20 less than the last one is.
        int[] setting = {900, 905, 910, 915, 920, 930, 940, 950, 960, 970, 980, 990};
        for (int i = 0; i < count.length; i++) {
            Check.due("38: measure " + i, t.measure(0, 900 - 10 * i), count[i]);
            Check.due("39: behind measure " + i, t.setting(0), setting[i]);
            Check.due("39: another gauge", t.setting(1), 900);
        }
        Check.due("38: the first of another gauge", t.measure(1, 900), 1);
        Check.due("38: 5 of the first one still", t.measure(0, 900), 5);
    }

    private static int setting(int... measures) {
        BendTable t = new BendTable();
        t.gauge(10, 1);
        for (int tenths : measures) {
            t.measure(0, tenths);
        }
        return t.setting(0);
    }

    private static void settingEdges() {
        Check.due("39: no measure", setting(), 900);
        Check.due("39: nothing is lacking", setting(900), 900);
        Check.due("39: the most is lacking", setting(300, 300, 300, 300, 300), 1500);
        Check.due("39: the least is lacking", setting(1200, 1200, 1200, 1200, 1200), 600);
        Check.due("39: 1 by 2, cut", setting(899, 900), 900);
        Check.due("39: 2 by 3, cut", setting(899, 899, 900), 900);
        Check.due("39: 3 by 3", setting(899, 898, 900), 901);
        Check.due("39: -1 by 2, cut", setting(901, 900), 900);
        Check.due("39: -2 by 3, cut", setting(901, 901, 900), 900);
        Check.due("39: -3 by 2, cut", setting(901, 902), 899);
        Check.due("39: the mean is cut, and not each", setting(899, 899, 899, 899, 895), 901);
        Check.due("39: one more than 5", setting(300, 900, 900, 900, 900, 900), 900);
        Check.due("39: just 5", setting(300, 900, 900, 900, 900), 1020);
        Check.due("39: 2 more than 5", setting(1200, 300, 900, 900, 900, 900, 895), 901);
    }

    // ---- promises 40 and 41

    private static void lineNumbers() {
        Edge.numbers("40: line", 0, 2, Shops.BUSY, (t, n) -> t.ends(n));
        Edge.numbers("40: line of none", 0, -1, Shops.EMPTY, (t, n) -> t.ends(n));
        Edge.numbers("40: line of 10", 0, 9, Shops.FULL, (t, n) -> t.ends(n));
        Edge.numbers("41: line", 0, 2, Shops.BUSY, (t, n) -> t.late(n));
        Edge.numbers("41: line of none", 0, -1, Shops.EMPTY, (t, n) -> t.late(n));
        Edge.numbers("41: line of 10", 0, 9, Shops.FULL, (t, n) -> t.late(n));
        Edge.numbers("42: line", 0, 2, Shops.BUSY, (t, n) -> t.price(n));
        Edge.numbers("42: line of none", 0, -1, Shops.EMPTY, (t, n) -> t.price(n));
        Edge.numbers("42: line of 10", 0, 9, Shops.FULL, (t, n) -> t.price(n));
    }

    private static void notNested() {
        Edge.nothing("40: not nested", Shops.BUSY, t -> t.ends(1));
        Edge.nothing("41: not nested", Shops.BUSY, t -> t.late(1));
        Edge.nothing("40: could not be nested", Shops.BUSY, t -> t.ends(2));
        Edge.nothing("41: could not be nested", Shops.BUSY, t -> t.late(2));
    }

    private static void strict(BendTable t) {
        Shops.BUSY.in(t);
        t.limits(39, 200);
    }

    private static void noGoodOrderByNow() {
        // The bend of part 1 is 40 long.
        Edge.nothing("40: nested, no good order by now", LotEdges::strict, t -> t.ends(0));
        Edge.nothing("41: nested, no good order by now", LotEdges::strict, t -> t.late(0));
        Edge.nothing("42: nested, no good order by now", LotEdges::strict, t -> t.price(0));
        Edge.nothing("42: not nested, no good order by now", LotEdges::strict, t -> t.price(1));
        Edge.nothing("40: neither nested nor a good order", LotEdges::strict, t -> t.ends(1));
        Edge.answers("36: it is nested still", 2, LotEdges::strict, t -> t.took(0));
        for (char what : "elp".toCharArray()) {
            Object before = Edge.answer(Edge.built(Shops.BUSY), t -> told(t, what));
            Edge.answers("40 to 42: with a good order again, " + what, before, LotEdges::strict, t -> {
                t.limits(40, 200);
                return told(t, what);
            });
        }
    }

    private static long told(BendTable t, char what) {
        return what == 'e' ? t.ends(0) : what == 'l' ? t.late(0) : t.price(0);
    }

    /** Parts whose pieces take 24, 1 and 2 on the first machine, and none on the press. */
    private static BendTable timed() {
        BendTable t = Shops.of(10, 0, 300, 300, '-');
        t.part(0, 12, 13, '-');
        t.part(0, 25, 25, '-');
        for (int i = 0; i < 4; i++) {
            t.stock(0, 900, 900, 'x', 20);
        }
        return t;
    }

    private static void endOfDay() {
        // 20 pieces of 24 are 480; and one of 1 more goes on the next day.
        for (int due = 0; due < 3; due++) {
            BendTable t = timed();
            t.line(0, 20, due);
            t.line(1, 1, due);
            t.nest(0);
            t.nest(1);
            Check.due("40: at the end of the day", t.ends(0), 480);
            Check.due("41: at the end of day 0, due on " + due, t.late(0), 0);
            Check.due("40: a minute later", t.ends(1), 481);
            Check.due("41: a minute later, due on " + due, t.late(1), due == 0 ? 1 : 0);
        }
        BendTable t = timed();
        t.line(0, 40, 0);
        t.line(1, 1, 0);
        t.line(1, 1, 1);
        t.line(1, 1, 2);
        for (int i = 0; i < 4; i++) {
            t.nest(i);
        }
        Check.due("40: at the end of day 1", t.ends(0), 960);
        Check.due("41: at the end of day 1", t.late(0), 1);
        Check.due("41: on day 2, due on 0", t.late(1), 2);
        Check.due("41: on day 2, due on 1", t.late(2), 1);
        Check.due("41: on day 2, due on 2", t.late(3), 0);
    }

    private static void dueDays() {
        // The latest due day, and as much ahead of it as there can be.
        BendTable t = timed();
        t.line(1, 1, 99);
        for (int i = 1; i < 10; i++) {
            t.line(0, 5, 98);
        }
        for (int i = 0; i < 10; i++) {
            t.nest(i);
        }
        Check.due("40: due on 99, behind all others", t.ends(0), 9 * 5 * 24 + 1);
        Check.due("41: not late", t.late(0), 0);
        Check.due("40: due on 98, the first of them", t.ends(1), 120);
        Check.due("40: due on 98, the last of them", t.ends(9), 9 * 120);
    }

    private static void turnOfLines() {
        BendTable t = timed();
        t.line(2, 1, 1);
        t.line(2, 2, 0);
        t.line(2, 3, 1);
        t.line(2, 4, 0);
        for (int i = 3; i >= 0; i--) {
            t.nest(i);
        }
        Check.due("40: due first, the lower number", t.ends(1), 4);
        Check.due("40: due first, the higher number", t.ends(3), 12);
        Check.due("40: due then, the lower number", t.ends(0), 14);
        Check.due("40: due then, the higher number", t.ends(2), 20);
    }

    /** Pieces that take 2 on the first machine and 12 on the press, and such that take 24 and 6. */
    private static BendTable bent() {
        BendTable t = Shops.of(10, 0, 20, 10, '-');
        t.face(0, 0, 'n', 0, 20, 5, 'h');
        t.part(0, 300, 280, '-');
        t.face(1, 0, 'n', 0, 300, 20, 'u');
        for (int i = 0; i < 4; i++) {
            t.stock(0, 900, 900, 'x', 20);
        }
        return t;
    }

    private static void pressWaits() {
        // The press waits for the line: it is free at 14, the second line comes to it at 26.
        BendTable t = bent();
        t.line(0, 1, 0);
        t.line(1, 1, 0);
        t.line(0, 2, 0);
        t.line(0, 1, 0);
        for (int i = 0; i < 4; i++) {
            t.nest(i);
        }
        Check.due("27: 70 begun", t.flatTime(0), 2);
        Check.due("40: 1 and 12", t.ends(0), 2 + 12);
        Check.due("40: as soon as the line is free", t.ends(1), 2 + 24 + 6);
        // Then the line waits for the press: it comes to it at 30, which is free at 32.
        Check.due("40: as soon as the press is free", t.ends(2), 32 + 24);
        Check.due("40: the whole line ahead of it", t.ends(3), 56 + 12);
    }

    private static void linesAside() {
        BendTable t = bent();
        t.line(0, 1, 0);
        t.line(1, 1, 0);
        t.line(0, 1, 0);
        t.nest(0);
        t.nest(2);
        Check.due("40: a line that is not nested takes no time", t.ends(2), 26);
        t.nest(1);
        Check.due("40: nested then, it is ahead", t.ends(2), 2 + 24 + 6 + 12);
        t.limits(299, 200);
        Check.due("40: without a good order by now it takes no time", t.ends(2), 26);
        Check.due("40: without a good order by now", Edge.answer(t, s -> s.ends(1)),
                java.util.NoSuchElementException.class);
        t.limits(300, 200);
        Check.due("40: with one again it does", t.ends(2), 44);
    }

    // ---- promise 42

    private static void priceEdges() {
        // The least: 16 by 5 by 100 is cut to 0, and 1 for the outline.
        BendTable least = Shops.of(5, 0, 4, 4, '-');
        least.line(0, 1, 0);
        least.line(0, 40, 0);
        Check.due("42: the least part", least.price(0), 51L);
        Check.due("42: cut for each piece", least.price(1), 90L);
        BendTable t = Shops.of(60, 20, 300, 300, '-');
        for (int i = 0; i < 4; i++) {
            t.face(0, 0, "news".charAt(i), 0, 300, 30, 'u');
        }
        t.tools(1, 30, 60, 60);
        t.line(0, 40, 0);
        // 400 by 400 by 60 are 96000 hundreds; its outline is 1600, its 4 bends are turned about once.
        Check.due("42: a large part", t.price(0), 40L * (96000 + 32 + 24 + 2) + 50);
        BendTable line = Shops.of(10, 0, 40, 25, '-');
        line.line(0, 1, 0);
        Check.due("42: 10000 by 100", line.price(0), 100L + 3 + 50);
        BendTable less = Shops.of(9, 0, 37, 3 + 3, '-');
        less.line(0, 1, 0);
        Check.due("42: 1998 by 100, cut", less.price(0), 19L + 2 + 50);
    }

    private static void priceLater() {
        // A price is told by what there is by now: another tool, or another force, and before a line is nested.
        BendTable t = Shops.of(10, 0, 50, 40, '-');
        t.hole(0, 0, 10, 10, 10, 10);
        t.line(0, 2, 0);
        Check.due("42: with a hole that is cut", t.price(0), 2L * (200 + 5) + 50);
        t.tool(10, 10);
        Check.due("42: with a hole that is punched", t.price(0), 2L * (200 + 4 + 6) + 50);
    }
}
