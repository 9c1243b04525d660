/** Promises 29 to 37 at their edges: stocks, lines, and nests. */
final class SheetEdges {
    private SheetEdges() {
    }

    static void run() {
        stockRanges();
        stockOrder();
        stockNumbers();
        lineRanges();
        lineOrder();
        lineFaults();
        fitNumbers();
        fitJust();
        fitTurned();
        nestNumbers();
        nestOrder();
        nestJustEnough();
        nestWhichStocks();
        nestLaterStocks();
        offcutHeight();
        offcutWidth();
        offcutBehind();
        offcutGrain();
        offcutEach();
        offcutsUpTo10();
        tookAndWaste();
        wasteEdges();
    }

    // ---- promises 29 to 32

    private static void stockRanges() {
        Edge.numbers("29: gauge", 0, 1, Shops.BUSY, (t, n) -> t.stock(n, 10, 10, 'x', 1));
        Edge.numbers("29: gauge of none", 0, -1, Shops.EMPTY, (t, n) -> t.stock(n, 10, 10, 'x', 1));
        Edge.range("29: width", 4, 900, Shops.BUSY, (t, n) -> t.stock(0, n, 10, 'x', 1));
        Edge.range("29: height", 4, 900, Shops.BUSY, (t, n) -> t.stock(0, 10, n, 'y', 1));
        Edge.range("29: count", 1, 20, Shops.BUSY, (t, n) -> t.stock(1, 10, 10, 'x', n));
        Edge.signs("29: grain", "xy", Shops.BUSY, (t, c) -> t.stock(0, 10, 10, c, 1));
        for (int count : new int[] {1, 20}) {
            BendTable t = Shops.of(10, 0, 4, 4, '-');
            t.stock(0, 4, 900, 'x', count);
            Check.due("30: as many as there were told", t.sheets(0), count);
            Check.due("31: as wide as it was told", t.size(0, false), 4);
            Check.due("31: as high as it was told", t.size(0, true), 900);
        }
    }

    private static void stockOrder() {
        BendTable t = new BendTable();
        t.gauge(10, 1);
        for (int i = 0; i < 10; i++) {
            Check.due("32: ahead of stock " + i, t.stocks(), i);
            Check.due("29: stock " + i, t.stock(0, 10, 10, 'x', 1), i);
        }
        Check.due("32: 10", t.stocks(), 10);
        Edge.full("29: 10 are all", Shops.FULL, s -> s.stock(0, 10, 10, 'x', 1));
        Edge.noPlace("29: no gauge ahead of a bad width", Shops.BUSY, s -> s.stock(2, 3, 10, 'x', 1));
        Edge.noPlace("29: no gauge ahead of a bad count", Shops.BUSY, s -> s.stock(2, 10, 10, 'x', 0));
        Edge.noPlace("29: no gauge ahead of a bad grain", Shops.BUSY, s -> s.stock(2, 10, 10, '-', 1));
        Edge.noPlace("29: no gauge ahead of 10", Shops.FULL, s -> s.stock(6, 10, 10, 'x', 1));
        Edge.noPlace("29: no gauge ahead of all", Shops.FULL, s -> s.stock(-1, 3, 3, '-', 0));
        Edge.badArgument("29: a bad width ahead of 10", Shops.FULL, s -> s.stock(0, 901, 10, 'x', 1));
        Edge.badArgument("29: a bad height ahead of 10", Shops.FULL, s -> s.stock(0, 10, 3, 'x', 1));
        Edge.badArgument("29: a bad count ahead of 10", Shops.FULL, s -> s.stock(0, 10, 10, 'x', 21));
        Edge.badArgument("29: a bad grain ahead of 10", Shops.FULL, s -> s.stock(0, 10, 10, '-', 1));
    }

    private static void stockNumbers() {
        // A busy shop has 2 stocks, and 2 offcuts of its nested line.
        Edge.numbers("30: stock", 0, 3, Shops.BUSY, (t, n) -> t.sheets(n));
        Edge.numbers("30: stock of none", 0, -1, Shops.EMPTY, (t, n) -> t.sheets(n));
        Edge.numbers("30: stock of 10", 0, 9, Shops.FULL, (t, n) -> t.sheets(n));
        Edge.numbers("31: stock, its width", 0, 3, Shops.BUSY, (t, n) -> t.size(n, false));
        Edge.numbers("31: stock, its height", 0, 3, Shops.BUSY, (t, n) -> t.size(n, true));
        Edge.numbers("31: stock of none", 0, -1, Shops.EMPTY, (t, n) -> t.size(n, true));
        Edge.numbers("31: stock of 10", 0, 9, Shops.FULL, (t, n) -> t.size(n, false));
        Edge.answers("32: none", 0, Shops.EMPTY, t -> t.stocks());
        Edge.answers("32: 2 and 2 offcuts", 4, Shops.BUSY, t -> t.stocks());
        Edge.answers("32: 10", 10, Shops.FULL, t -> t.stocks());
        BendTable t = Shops.of(10, 0, 10, 10, '-');
        t.stock(0, 10, 10, 'x', 1);
        t.line(0, 1, 0);
        t.nest(0);
        Check.due("30: the last one was taken", t.sheets(0), 0);
        Check.due("32: a stock without sheets is one", t.stocks(), 1);
        Check.due("31: it has its width still", t.size(0, false), 10);
        Check.due("34: and what lies on a sheet of it", t.fits(0, 0), 1);
    }

    // ---- promise 33

    private static void lineRanges() {
        Edge.numbers("33: part", 0, 3, Shops.BUSY, (t, n) -> t.line(n, 1, 0));
        Edge.numbers("33: part of none", 0, -1, Shops.EMPTY, (t, n) -> t.line(n, 1, 0));
        Edge.range("33: count", 1, 40, Shops.BUSY, (t, n) -> t.line(1, n, 0));
        Edge.range("33: due day", 0, 99, Shops.BUSY, (t, n) -> t.line(1, 1, n));
        Edge.range("33: count, of a part without bends", 1, 40, s -> {
            s.gauge(10, 1);
            s.part(0, 10, 10, '-');
        }, (t, n) -> t.line(0, n, 99));
    }

    private static void lineOrder() {
        BendTable t = Shops.of(10, 1, 10, 10, '-');
        for (int i = 0; i < 10; i++) {
            Check.due("33: line " + i, t.line(0, 1, 0), i);
        }
        Edge.full("33: 10 are all", Shops.FULL, s -> s.line(4, 1, 0));
        Edge.full("33: 10 are all, for a part in no line, too", Shops.FULL, s -> s.line(5, 1, 0));
        Edge.noPlace("33: no part ahead of a bad count", Shops.BUSY, s -> s.line(4, 0, 0));
        Edge.noPlace("33: no part ahead of a bad day", Shops.BUSY, s -> s.line(-1, 1, 100));
        Edge.noPlace("33: no part ahead of 10", Shops.FULL, s -> s.line(8, 1, 0));
        Edge.noPlace("33: no part ahead of all", Shops.FULL, s -> s.line(8, 0, -1));
        Edge.badArgument("33: a bad count ahead of a fault", Shops.BUSY, s -> s.line(2, 41, 0));
        Edge.badArgument("33: a bad day ahead of a fault", Shops.BUSY, s -> s.line(2, 1, 100));
        Edge.badArgument("33: a bad count ahead of no good order", Shops.BUSY, s -> s.line(3, 0, 0));
        Edge.badArgument("33: a bad day ahead of no good order", Shops.BUSY, s -> s.line(3, 1, -1));
        Edge.badArgument("33: a bad count ahead of 10", Shops.FULL, s -> s.line(4, 0, 0));
        Edge.badArgument("33: a bad day ahead of 10", Shops.FULL, s -> s.line(4, 1, 100));
        Edge.notNow("33: a fault ahead of 10", Shops.FULL, s -> s.line(2, 1, 0));
        Edge.notNow("33: no good order ahead of 10", Shops.FULL, s -> s.line(3, 1, 0));
    }

    /** Each kind of fault keeps a part out of a line, and so does each reason for no good order. */
    private static void lineFaults() {
        Edge.notNow("33: the fault o", SheetEdges::overlapped, t -> t.line(0, 1, 0));
        Edge.answers("33: which is its only one", 1, SheetEdges::overlapped, t -> t.faults(0));
        Edge.answers("33: it has a good order", true, SheetEdges::overlapped, t -> t.orders(0) > 0);
        Edge.notNow("33: the fault h", t -> {
            t.gauge(10, 0);
            t.part(0, 20, 20, '-');
            t.face(0, 0, 'e', 0, 20, 10, 'u');
            t.hole(0, 0, 17, 5, 1, 1);
        }, t -> t.line(0, 1, 0));
        Edge.answers("33: not quite the fault h", 0, t -> {
            t.gauge(10, 0);
            t.part(0, 20, 20, '-');
            t.face(0, 0, 'e', 0, 20, 10, 'u');
            t.hole(0, 0, 16, 5, 1, 1);
        }, t -> t.line(0, 1, 0));
        Edge.notNow("33: the fault c", t -> {
            t.gauge(10, 0);
            t.part(0, 40, 40, '-');
            t.face(0, 0, 'e', 0, 40, 10, 'h');
            t.face(0, 0, 'w', 0, 40, 31, 'h');
        }, t -> t.line(0, 1, 0));
        Edge.answers("33: not quite the fault c", 0, t -> {
            t.gauge(10, 0);
            t.part(0, 40, 40, '-');
            t.face(0, 0, 'e', 0, 40, 10, 'h');
            t.face(0, 0, 'w', 0, 40, 30, 'h');
        }, t -> t.line(0, 1, 0));
        Edge.notNow("33: no good order by now", t -> {
            t.gauge(10, 0);
            t.part(0, 40, 40, '-');
            t.face(0, 0, 'e', 0, 40, 10, 'u');
            t.limits(39, 200);
        }, t -> t.line(0, 1, 0));
        Edge.answers("33: no good order before", 0, t -> {
            t.gauge(10, 0);
            t.part(0, 40, 40, '-');
            t.face(0, 0, 'e', 0, 40, 10, 'u');
            t.limits(39, 200);
            t.limits(40, 200);
        }, t -> t.line(0, 1, 0));
    }

    /** Only a strip and a face overlap: strips are left out in space, and so there is a good order. */
    private static void overlapped(BendTable t) {
        t.gauge(10, 3);
        t.part(0, 50, 30, '-');
        t.face(0, 0, 'e', 0, 10, 10, 'u');
        t.face(0, 0, 'e', 11, 1, 10, 'u');
        t.face(0, 1, 'n', 0, 10, 1, 'u');
    }

    // ---- promise 34

    private static void fitNumbers() {
        Edge.numbers("34: part", 0, 3, Shops.BUSY, (t, n) -> t.fits(n, 0));
        Edge.numbers("34: part of none", 0, -1, Shops.EMPTY, (t, n) -> t.fits(n, 0));
        Edge.numbers("34: stock", 0, 3, Shops.BUSY, (t, n) -> t.fits(0, n));
        Edge.numbers("34: stock of 10", 0, 9, Shops.FULL, (t, n) -> t.fits(0, n));
        Edge.noPlace("34: no part and no stock", Shops.EMPTY, t -> t.fits(0, 0));
        Edge.notNow("34: unlike gauges", Shops.BUSY, t -> t.fits(0, 1));
        Edge.notNow("34: unlike gauges the other way", Shops.BUSY, t -> t.fits(1, 0));
        Edge.notNow("34: unlike the offcut's gauge", Shops.BUSY, t -> t.fits(0, 2));
        Edge.answers("34: the offcut's gauge", 0, Shops.BUSY, t -> t.fits(1, 2));
        Edge.answers("34: the other offcut's gauge", 1, Shops.BUSY, t -> t.fits(1, 3));
    }

    private static int fits(int width, int height, char grain, int sheetWidth, int sheetHeight) {
        BendTable t = Shops.of(10, 0, width, height, grain);
        t.stock(0, sheetWidth, sheetHeight, 'x', 1);
        return t.fits(0, 0);
    }

    private static void fitJust() {
        Check.due("34: one just fits", fits(20, 10, 'x', 20, 10), 1);
        Check.due("34: too narrow by 1", fits(20, 10, 'x', 19, 10), 0);
        Check.due("34: too low by 1", fits(20, 10, 'x', 20, 9), 0);
        Check.due("34: two in a row, with 2 between them", fits(20, 10, 'x', 42, 10), 2);
        Check.due("34: two in a row, with 1 between them", fits(20, 10, 'x', 41, 10), 1);
        Check.due("34: two rows, with 2 between them", fits(20, 10, 'x', 20, 22), 2);
        Check.due("34: two rows, with 1 between them", fits(20, 10, 'x', 20, 21), 1);
        Check.due("34: three by four", fits(20, 10, 'x', 64, 46), 12);
        Check.due("34: less by 1 both ways", fits(20, 10, 'x', 63, 45), 6);
        Check.due("34: the most", fits(4, 4, '-', 900, 900), 150 * 150);
        Check.due("34: the largest part", fits(300, 300, '-', 900, 900), 4);
        Check.due("34: a sheet of 4", fits(4, 4, '-', 4, 4), 1);
        // The rectangle around the flat, with its strips, and below 0.
        BendTable t = Shops.of(10, 3, 20, 10, 'x');
        t.face(0, 0, 'w', 2, 1, 7, 'u');
        t.stock(0, 30, 10, 'x', 1);
        t.stock(0, 29, 10, 'x', 1);
        Check.due("34: with the strip it just fits", t.fits(0, 0), 1);
        Check.due("34: with the strip it does not", t.fits(0, 1), 0);
    }

    private static void fitTurned() {
        Check.due("34: across the grain it is turned", fits(20, 10, 'y', 10, 20), 1);
        Check.due("34: across the grain it does not fit as it is", fits(20, 10, 'y', 20, 10), 0);
        Check.due("34: along the grain it is not turned", fits(20, 10, 'x', 10, 20), 0);
        Check.due("34: without grain it fits as it is", fits(20, 10, '-', 20, 10), 1);
        Check.due("34: without grain it is turned, too wide by 1", fits(20, 10, '-', 19, 20), 1);
        Check.due("34: without grain, neither way", fits(20, 10, '-', 42, 9), 0);
        Check.due("34: without grain it is turned, being too high", fits(10, 20, '-', 20, 19), 1);
        // Turned, both would fit 4 times.
        Check.due("34: without grain it is not turned to fit more often", fits(40, 10, '-', 46, 45), 3);
        Check.due("34: nor is it for twice as often", fits(30, 10, '-', 46, 31), 2);
        BendTable t = Shops.of(10, 0, 20, 10, 'x');
        t.stock(0, 20, 10, 'y', 1);
        t.stock(0, 10, 20, 'y', 1);
        Check.due("34: across a grain y it does not fit as it is", t.fits(0, 0), 0);
        Check.due("34: across a grain y it is turned", t.fits(0, 1), 1);
    }

    // ---- promise 35

    private static void nestNumbers() {
        Edge.numbers("35: line", 0, 2, Shops.BUSY, (t, n) -> t.nest(n));
        Edge.numbers("35: line of none", 0, -1, Shops.EMPTY, (t, n) -> t.nest(n));
        Edge.numbers("35: line of 10", 0, 9, Shops.FULL, (t, n) -> t.nest(n));
        Edge.numbers("36: line", 0, 2, Shops.BUSY, (t, n) -> t.took(n));
        Edge.numbers("36: line of none", 0, -1, Shops.EMPTY, (t, n) -> t.took(n));
        Edge.numbers("37: line", 0, 2, Shops.BUSY, (t, n) -> t.waste(n));
        Edge.numbers("37: line of none", 0, -1, Shops.EMPTY, (t, n) -> t.waste(n));
    }

    private static void sold(BendTable t) {
        t.gauge(10, 0);
        t.part(0, 10, 10, '-');
        t.stock(0, 10, 10, 'x', 1);
        t.line(0, 1, 0);
        t.line(0, 1, 0);
        t.nest(0);
    }

    private static void nestOrder() {
        Edge.notNow("35: nested", Shops.BUSY, t -> t.nest(0));
        Edge.notNow("35: nested, ahead of no sheets", SheetEdges::sold, t -> t.nest(0));
        Edge.nothing("35: no sheets", SheetEdges::sold, t -> t.nest(1));
        Edge.nothing("35: too few sheets", Shops.BUSY, t -> t.nest(2));
        Edge.nothing("35: no stock at all", s -> {
            s.gauge(10, 0);
            s.part(0, 10, 10, '-');
            s.line(0, 1, 0);
        }, t -> t.nest(0));
    }

    private static void nestJustEnough() {
        // 2 pieces lie on each of 3 sheets, and 1 on a smaller one.
        for (int count = 6; count <= 8; count++) {
            BendTable t = Shops.of(10, 0, 10, 10, '-');
            t.stock(0, 22, 10, 'x', 3);
            t.stock(0, 10, 10, 'x', 1);
            t.line(0, count, 0);
            Object want = count == 6 ? 3 : count == 7 ? 4 : java.util.NoSuchElementException.class;
            Check.due("35: " + count + " of 7", Edge.answer(t, s -> s.nest(0)), want);
            Check.due("30: sheets left for " + count, t.sheets(0), count == 8 ? 3 : 0);
            Check.due("30: small sheets left for " + count, t.sheets(1), count == 7 ? 0 : 1);
            Check.due("36: " + count, t.took(0), count == 8 ? 0 : want);
        }
        BendTable most = Shops.of(10, 0, 10, 10, '-');
        most.stock(0, 10, 10, 'x', 20);
        most.stock(0, 10, 10, 'x', 20);
        most.line(0, 40, 0);
        Check.due("35: the most sheets", most.nest(0), 40);
        Check.due("30: all of the first", most.sheets(0), 0);
        Check.due("30: all of the second", most.sheets(1), 0);
        Check.due("37: nothing is waste", most.waste(0), 0);
        Check.due("46: sound", most.isSound());
    }

    private static void nestWhichStocks() {
        BendTable t = Shops.of(10, 0, 20, 10, 'x');
        t.gauge(10, 0);
        t.stock(1, 20, 10, 'x', 5);
        t.stock(0, 19, 10, 'x', 5);
        t.stock(0, 20, 9, 'x', 5);
        t.stock(0, 20, 10, 'y', 5);
        t.stock(0, 10, 20, 'x', 5);
        t.stock(0, 20, 10, 'x', 1);
        t.stock(0, 10, 20, 'y', 1);
        t.line(0, 2, 0);
        Check.due("35: of the last two", t.nest(0), 2);
        int[] left = {5, 5, 5, 5, 5, 0, 0};
        for (int i = 0; i < 7; i++) {
            Check.due("30: stock " + i, t.sheets(i), left[i]);
        }
    }

    private static void nestLaterStocks() {
        BendTable t = Shops.of(10, 0, 10, 10, '-');
        t.stock(0, 10, 10, 'x', 1);
        t.line(0, 2, 0);
        Check.due("35: too few at first", Edge.answer(t, s -> s.nest(0)), java.util.NoSuchElementException.class);
        t.stock(0, 10, 10, 'x', 1);
        Check.due("35: enough then", t.nest(0), 2);
        // A line is nested also if its part has no good order by then.
        BendTable u = Shops.of(10, 0, 20, 20, '-');
        u.face(0, 0, 'e', 0, 20, 10, 'u');
        u.stock(0, 30, 20, 'x', 1);
        u.line(0, 1, 0);
        u.limits(1, 0);
        Check.due("35: without a good order by now", u.nest(0), 1);
    }

    private static void offcutHeight() {
        for (int left = 19; left <= 20; left++) {
            BendTable t = Shops.of(10, 0, 20, 30, '-');
            t.stock(0, 30, 32 + left, 'y', 1);
            t.line(0, 1, 0);
            t.nest(0);
            Check.due("32: " + left + " above the row and the 2 behind it", t.stocks(), left < 20 ? 1 : 2);
            if (left == 20) {
                Check.due("31: as high as what is above", t.size(1, true), 20);
                Check.due("31: as wide as the sheet", t.size(1, false), 30);
                Check.due("30: one sheet", t.sheets(1), 1);
            }
        }
        // A row that ends with the sheet, or 1 below it, leaves nothing.
        for (int left = 0; left <= 3; left++) {
            BendTable t = Shops.of(10, 0, 20, 30, '-');
            t.stock(0, 30, 30 + left, 'y', 1);
            t.line(0, 1, 0);
            t.nest(0);
            Check.due("32: " + left + " above the row", t.stocks(), 1);
            Check.due("37: " + left + " above the row", t.waste(0), (30 * (30 + left) - 600) * 1000 / (30 * (30 + left)));
        }
        // The last row of pieces that lie there, not the last one that would fit.
        for (int count = 2; count <= 5; count++) {
            BendTable t = Shops.of(10, 0, 20, 30, '-');
            t.stock(0, 42, 120, 'y', 1);
            t.line(0, count, 0);
            t.nest(0);
            int rows = count < 3 ? 1 : count < 5 ? 2 : 3;
            Check.due("31: above " + count + " pieces", t.stocks() == 2 ? t.size(1, true) : 0,
                    120 - 32 * rows);
        }
    }

    private static void offcutWidth() {
        for (int width = 19; width <= 20; width++) {
            BendTable t = Shops.of(10, 0, 10, 30, '-');
            t.stock(0, width, 100, 'x', 1);
            t.line(0, 1, 0);
            t.nest(0);
            Check.due("32: " + width + " wide", t.stocks(), width < 20 ? 1 : 2);
        }
    }

    private static void offcutBehind() {
        // What is above a row of 20 by 50 would take a turned piece; but it comes behind all sheets of the line.
        Edge.nothing("35: no offcut of the same line", t -> {
            t.gauge(10, 0);
            t.part(0, 20, 50, '-');
            t.stock(0, 100, 80, 'x', 1);
            t.line(0, 5, 0);
        }, t -> t.nest(0));
        BendTable t = Shops.of(10, 0, 20, 50, '-');
        t.stock(0, 100, 80, 'x', 1);
        t.stock(0, 100, 80, 'y', 1);
        t.line(0, 5, 0);
        t.line(0, 1, 0);
        Check.due("35: the second sheet, and no offcut", t.nest(0), 2);
        Check.due("32: two offcuts", t.stocks(), 4);
        Check.due("31: of the first sheet, first", t.size(2, true), 28);
        Check.due("34: a turned piece lies there", t.fits(0, 2), 1);
        Check.due("35: by rising numbers", t.nest(1), 1);
        Check.due("30: the first offcut is taken", t.sheets(2), 0);
        Check.due("30: the second offcut is not", t.sheets(3), 1);
        Check.due("31: 28 - 20 - 2 is no offcut", t.stocks(), 4);
    }

    private static void offcutGrain() {
        for (char grain : "xy".toCharArray()) {
            char other = grain == 'x' ? 'y' : 'x';
            BendTable t = Shops.of(10, 0, 10, 30, grain);
            t.part(0, 60, 20, other);
            t.part(0, 60, 20, grain);
            t.stock(0, 60, 52, grain, 1);
            t.line(0, 1, 0);
            t.nest(0);
            Check.due("31: an offcut of 60 by 20", t.size(1, true), 20);
            Check.due("34: along the sheet's grain, " + grain, t.fits(2, 1), 1);
            Check.due("34: across the sheet's grain, " + grain, t.fits(1, 1), 0);
        }
    }

    private static void offcutEach() {
        BendTable t = Shops.of(10, 0, 20, 30, '-');
        t.stock(0, 20, 60, 'y', 4);
        t.line(0, 3, 0);
        t.nest(0);
        Check.due("32: an offcut of each sheet", t.stocks(), 4);
        for (int i = 1; i < 4; i++) {
            Check.due("31: offcut " + i, t.size(i, true), 28);
            Check.due("30: offcut " + i, t.sheets(i), 1);
        }
        Check.due("37: 2 of 60 are waste", t.waste(0), 33);
    }

    private static void offcutsUpTo10() {
        for (int stocks = 8; stocks <= 10; stocks++) {
            BendTable t = Shops.of(10, 0, 20, 30, '-');
            t.stock(0, 20, 60, 'y', 2);
            for (int i = 1; i < stocks; i++) {
                t.stock(0, 4, 4, 'y', 1);
            }
            t.line(0, 2, 0);
            Check.due("35: with " + stocks + " stocks", t.nest(0), 2);
            Check.due("32: as long as there are less than 10", t.stocks(), 10);
            // Both sheets are 2400, both pieces 1200, and an offcut 560.
            int kept = 10 - stocks;
            Check.due("37: " + kept + " offcuts are kept", t.waste(0), (1200 - 560 * kept) * 1000 / 2400);
            Check.due("29: 10 with offcuts", Edge.answer(t, s -> s.stock(0, 10, 10, 'x', 1)),
                    IllegalStateException.class);
        }
    }

    // ---- promises 36 and 37

    private static void tookAndWaste() {
        Edge.answers("36: nested", 2, Shops.BUSY, t -> t.took(0));
        Edge.answers("36: not nested", 0, Shops.BUSY, t -> t.took(1));
        Edge.answers("36: for which there are too few sheets", 0, Shops.BUSY, t -> t.took(2));
        Edge.nothing("37: not nested", Shops.BUSY, t -> t.waste(1));
        Edge.nothing("37: for which there are too few sheets", Shops.BUSY, t -> {
            Edge.answer(t, s -> s.nest(2));
            return t.waste(2);
        });
    }

    private static void wasteEdges() {
        BendTable none = Shops.of(10, 0, 20, 20, '-');
        none.stock(0, 20, 20, 'x', 1);
        none.line(0, 1, 0);
        none.nest(0);
        Check.due("37: nothing", none.waste(0), 0);
        // 19 above the row are no offcut; 894 are.
        BendTable t = Shops.of(10, 0, 4, 4, '-');
        t.stock(0, 900, 25, 'x', 1);
        t.line(0, 1, 0);
        t.nest(0);
        Check.due("37: 22484 of 22500, cut", t.waste(0), 999);
        BendTable u = Shops.of(10, 0, 4, 4, '-');
        u.stock(0, 900, 900, 'x', 1);
        u.line(0, 1, 0);
        u.nest(0);
        Check.due("37: 900 by 6, less 16, of 810000, cut", u.waste(0), 6);
        // Holes that lie on each other are taken off the flat each: more than the sheet is waste then.
        BendTable v = Shops.of(10, 0, 300, 300, '-');
        for (int i = 0; i < 8; i++) {
            v.hole(0, 0, 1, 1, 298, 298);
        }
        v.stock(0, 300, 300, 'x', 20);
        v.stock(0, 300, 300, 'x', 20);
        v.line(0, 40, 0);
        Check.due("35: 40 sheets", v.nest(0), 40);
        Check.due("37: 40 times 710432 of 40 times 90000", v.waste(0), 7893);
    }
}
