/** Promises 24 to 46: turret, sheets, lines, nests, angles, lots, prices, figures. */
final class ShopTest {
    private ShopTest() {
    }

    static void run() {
        turret();
        turretTimes();
        pressTimes();
        stocks();
        lines();
        fits();
        nestExample();
        nests();
        offcuts();
        offcutLimit();
        notEnough();
        waste();
        angles();
        schedule();
        lateness();
        prices();
        shares();
        meanAdditions();
        checksums();
        soundness();
    }

    private static BendTable shop(int width, int height, char grain) {
        return FaceAndFlatTest.shop(10, 1, width, height, grain);
    }

    private static void turret() {
        BendTable t = shop(100, 100, '-');
        t.hole(0, 0, 10, 10, 20, 8);
        Check.due("25: an empty turret", t.toolOf(0, 0), -1);
        Check.due("26: an empty turret", t.hits(0), 0);
        Check.badArgument("24: no width", () -> t.tool(0, 5));
        Check.badArgument("24: too wide", () -> t.tool(61, 5));
        Check.badArgument("24: no height", () -> t.tool(5, 0));
        Check.badArgument("24: too high", () -> t.tool(5, 61));
        Check.due("24: the least", t.tool(1, 1), 0);
        Check.due("25: the least", t.toolOf(0, 0), 0);
        Check.due("26: the least", t.hits(0), 160);
        Check.due("24: the most", t.tool(60, 60), 1);
        Check.due("25: too large", t.toolOf(0, 0), 0);
        Check.due("24: wide", t.tool(7, 8), 2);
        Check.due("26: rounded up", t.hits(0), 3);
        Check.due("24: as many", t.tool(20, 3), 3);
        Check.due("25: of several the lowest", t.toolOf(0, 0), 2);
        Check.due("24: too high by 1", t.tool(20, 9), 4);
        Check.due("25: still", t.toolOf(0, 0), 2);
        Check.due("24: just that", t.tool(20, 8), 5);
        Check.due("25: one hit", t.toolOf(0, 0), 5);
        Check.due("26: one hit", t.hits(0), 1);
        Check.full("24: the seventh", () -> t.tool(5, 5));
        Check.badArgument("24: a bad seventh", () -> t.tool(5, 0));
        Check.noPlace("25: no hole 1", () -> t.toolOf(0, 1));
        Check.noPlace("25: hole below 0", () -> t.toolOf(0, -1));
        Check.noPlace("25: no part", () -> t.toolOf(1, 0));
        Check.noPlace("26: no part", () -> t.hits(1));
        Check.noPlace("27: no part", () -> t.flatTime(1));
    }

    private static void turretTimes() {
        BendTable t = shop(100, 100, '-');
        Check.due("27: 400 by 50", t.flatTime(0), 8);
        t.hole(0, 0, 10, 10, 20, 8);
        Check.due("27: 456, begun", t.flatTime(0), 10);
        t.tool(10, 8);
        Check.due("27: two hits and a tool", t.flatTime(0), 2 + 5 + 8);
        t.hole(0, 0, 40, 40, 30, 8);
        Check.due("26: of both holes", t.hits(0), 5);
        Check.due("27: a tool once", t.flatTime(0), 5 + 5 + 8);
        t.hole(0, 0, 40, 60, 30, 7);
        t.tool(30, 7);
        Check.due("25: fewer hits", t.toolOf(0, 1), 1);
        Check.due("27: two tools", t.flatTime(0), 5 + 10 + 8);
        t.hole(0, 0, 80, 10, 2, 3);
        Check.due("27: one is cut", t.flatTime(0), 5 + 10 + 9);
        BendTable u = shop(51, 24, '-');
        Check.due("27: just 150", u.flatTime(0), 3);
    }

    private static void pressTimes() {
        BendTable t = shop(50, 30, '-');
        Check.due("28: no bends", t.pressTime(0), 0);
        t.face(0, 0, 'e', 0, 30, 10, 'u');
        Check.due("28: a bend", t.pressTime(0), 6);
        t.face(0, 0, 'n', 0, 50, 10, 'd');
        Check.due("28: over and about", t.pressTime(0), 12 + 8);
        t.face(0, 0, 'w', 0, 30, 10, 'h');
        Check.due("28: a hem", t.pressTime(0), 24 + 8);
        Check.noPlace("28: no part", () -> t.pressTime(1));
    }

    private static void stocks() {
        BendTable t = new BendTable();
        Check.noPlace("29: no gauge", () -> t.stock(0, 10, 10, 'x', 1));
        t.gauge(10, 1);
        Check.noPlace("29: gauge below 0, and no grain", () -> t.stock(-1, 10, 10, '-', 1));
        Check.badArgument("29: narrow", () -> t.stock(0, 3, 10, 'x', 1));
        Check.badArgument("29: wide", () -> t.stock(0, 901, 10, 'x', 1));
        Check.badArgument("29: low", () -> t.stock(0, 10, 3, 'x', 1));
        Check.badArgument("29: high", () -> t.stock(0, 10, 901, 'x', 1));
        Check.badArgument("29: no grain", () -> t.stock(0, 10, 10, '-', 1));
        Check.badArgument("29: no sheets", () -> t.stock(0, 10, 10, 'x', 0));
        Check.badArgument("29: 21 sheets", () -> t.stock(0, 10, 10, 'x', 21));
        Check.due("29: the least", t.stock(0, 4, 4, 'x', 1), 0);
        Check.due("29: the most", t.stock(0, 900, 899, 'y', 20), 1);
        Check.due("30: 1", t.sheets(0), 1);
        Check.due("30: 20", t.sheets(1), 20);
        Check.due("31: width", t.size(1, false), 900);
        Check.due("31: height", t.size(1, true), 899);
        Check.due("31: another width", t.size(0, false), 4);
        Check.due("32: two", t.stocks(), 2);
        for (int i = 2; i < 10; i++) {
            Check.due("29: more", t.stock(0, 10, 10, 'x', 1), i);
        }
        Check.full("29: the eleventh", () -> t.stock(0, 10, 10, 'x', 1));
        Check.badArgument("29: a bad eleventh", () -> t.stock(0, 10, 10, 'x', 0));
        Check.due("32: ten", t.stocks(), 10);
        Check.noPlace("30: no stock 10", () -> t.sheets(10));
        Check.noPlace("30: stock below 0", () -> t.sheets(-1));
        Check.noPlace("31: no stock 10", () -> t.size(10, true));
        Check.noPlace("31: stock below 0", () -> t.size(-1, false));
    }

    private static void lines() {
        BendTable t = shop(50, 30, '-');
        Check.noPlace("33: no part", () -> t.line(1, 1, 0));
        Check.noPlace("33: part below 0, and no count", () -> t.line(-1, 0, 0));
        Check.badArgument("33: no count", () -> t.line(0, 0, 0));
        Check.badArgument("33: 41", () -> t.line(0, 41, 0));
        Check.badArgument("33: due below 0", () -> t.line(0, 1, -1));
        Check.badArgument("33: due day 100", () -> t.line(0, 1, 100));
        Check.due("33: the least", t.line(0, 1, 0), 0);
        Check.due("33: the most", t.line(0, 40, 99), 1);
        t.part(0, 50, 30, '-');
        t.face(1, 0, 'e', 0, 30, 20, 'u');
        t.hole(1, 0, 48, 10, 1, 1);
        Check.notNow("33: a fault", () -> t.line(1, 1, 0));
        Check.badArgument("33: a fault, and no count", () -> t.line(1, 0, 0));
        for (int i = 2; i < 10; i++) {
            Check.due("33: more", t.line(0, 2, 3), i);
        }
        Check.full("33: the eleventh", () -> t.line(0, 1, 0));
        Check.notNow("33: an eleventh with a fault", () -> t.line(1, 1, 0));
        Check.noPlace("36: no line 10", () -> t.took(10));
        Check.noPlace("36: line below 0", () -> t.took(-1));
        Check.due("36: not nested", t.took(9), 0);
    }

    private static void fits() {
        BendTable t = shop(20, 10, '-');
        t.part(0, 20, 10, 'x');
        t.part(0, 20, 10, 'y');
        t.gauge(20, 1);
        t.stock(0, 42, 34, 'x', 1);
        t.stock(0, 41, 33, 'y', 1);
        t.stock(0, 19, 42, 'x', 1);
        t.stock(1, 42, 34, 'x', 1);
        t.stock(0, 9, 900, 'x', 1);
        Check.due("34: two by three", t.fits(0, 0), 6);
        Check.due("34: less by 1 both ways", t.fits(0, 1), 2);
        Check.due("34: turned, if it does not fit", t.fits(0, 2), 2);
        Check.due("34: with the grain", t.fits(1, 0), 6);
        Check.due("34: across the grain", t.fits(2, 0), 3);
        Check.due("34: with the other grain", t.fits(2, 1), 2);
        Check.due("34: turned by the other grain", t.fits(1, 1), 3);
        Check.due("34: with grain it is not turned to fit", t.fits(1, 2), 0);
        Check.due("34: neither way", t.fits(0, 4), 0);
        Check.notNow("34: another gauge", () -> t.fits(0, 3));
        Check.noPlace("34: no part", () -> t.fits(3, 0));
        Check.noPlace("34: no stock", () -> t.fits(0, 5));
        Check.noPlace("34: stock below 0", () -> t.fits(0, -1));
    }

    private static void nestExample() {
        BendTable t = shop(20, 20, '-');
        t.stock(0, 100, 100, 'x', 2);
        t.line(0, 17, 0);
        Check.due("34: the example", t.fits(0, 0), 16);
        Check.due("35: the example", t.nest(0), 2);
        Check.due("36: the example", t.took(0), 2);
        Check.due("32: the example", t.stocks(), 2);
        Check.due("37: the example", t.waste(0), 270);
        Check.due("30: none left", t.sheets(0), 0);
        Check.due("30: one offcut", t.sheets(1), 1);
        Check.due("31: as wide as the sheet", t.size(1, false), 100);
        Check.due("31: what is above", t.size(1, true), 78);
        Check.notNow("35: not again", () -> t.nest(0));
        Check.due("46: sound", t.isSound());
    }

    private static void nests() {
        BendTable t = shop(20, 20, '-');
        t.gauge(20, 1);
        t.stock(1, 100, 100, 'x', 2);
        t.stock(0, 19, 100, 'x', 2);
        t.stock(0, 44, 42, 'x', 2);
        t.stock(0, 100, 42, 'x', 3);
        t.line(0, 13, 0);
        Check.noPlace("35: no line 1", () -> t.nest(1));
        Check.noPlace("35: line below 0", () -> t.nest(-1));
        Check.due("35: 4 and 4 and 5 of 8", t.nest(0), 3);
        Check.due("30: another gauge", t.sheets(0), 2);
        Check.due("30: too narrow", t.sheets(1), 2);
        Check.due("30: the lower number first", t.sheets(2), 0);
        Check.due("30: then the next", t.sheets(3), 2);
        Check.due("32: no offcut", t.stocks(), 4);
        t.line(0, 8, 0);
        Check.due("35: the next line", t.nest(1), 1);
        Check.due("30: one less", t.sheets(3), 1);
    }

    private static void offcuts() {
        BendTable t = shop(20, 20, 'y');
        t.stock(0, 64, 64, 'y', 3);
        t.stock(0, 64, 63, 'y', 1);
        t.line(0, 3, 0);
        t.line(0, 1, 0);
        t.line(0, 6, 0);
        t.line(0, 3, 0);
        Check.due("35: a row", t.nest(0), 1);
        Check.due("31: above a row", t.size(2, true), 42);
        Check.due("31: as wide", t.size(2, false), 64);
        Check.due("37: a row", t.waste(0), (4096 - 1200 - 64 * 42) * 1000 / 4096);
        t.nest(1);
        Check.due("31: above a piece", t.size(3, true), 42);
        t.nest(2);
        Check.due("31: above two rows", t.size(4, true), 20);
        Check.due("32: 20 is kept", t.stocks(), 5);
        Check.due("35: off the sheet of 63", t.nest(3), 1);
        Check.due("31: 41 are above", t.size(5, true), 41);
        t.line(0, 6, 0);
        Check.due("35: off an offcut", t.nest(4), 1);
        Check.due("30: that is none any more", t.sheets(2), 0);
        Check.due("32: but its number stays", t.stocks(), 6);
        // 19 above are no offcut, nor is what is 19 wide.
        BendTable u = shop(10, 20, 'y');
        u.stock(0, 64, 41, 'y', 1);
        u.stock(0, 19, 100, 'y', 1);
        u.line(0, 1, 0);
        u.line(0, 1, 0);
        u.nest(0);
        Check.due("32: 19 above", u.stocks(), 2);
        Check.due("37: so it is waste", u.waste(0), (64 * 41 - 200) * 1000 / (64 * 41));
        u.nest(1);
        Check.due("32: 19 wide", u.stocks(), 2);
        // Offcuts of a line come behind its sheets: they don't serve it.
        BendTable v = shop(20, 20, 'x');
        v.stock(0, 20, 50, 'x', 2);
        v.line(0, 5, 0);
        Check.nothing("35: no more than two on each", () -> v.nest(0));
        // A turned piece: across the grain it is 10 wide and 30 high, and a row ends at 30.
        BendTable w = shop(30, 10, 'y');
        w.stock(0, 34, 100, 'x', 1);
        w.line(0, 4, 0);
        Check.due("35: turned", w.nest(0), 1);
        Check.due("31: above two rows of 30", w.size(1, true), 100 - 64);
        w.line(0, 1, 0);
        Check.due("35: the offcut's grain is the sheet's", w.fits(0, 1), 3);
    }

    private static void offcutLimit() {
        BendTable t = shop(20, 20, '-');
        for (int i = 0; i < 9; i++) {
            t.stock(0, 20, 60, 'x', 1);
        }
        t.line(0, 1, 0);
        t.line(0, 1, 0);
        t.nest(0);
        Check.due("32: the tenth is an offcut", t.stocks(), 10);
        Check.due("37: kept", t.waste(0), (1200 - 400 - 760) * 1000 / 1200);
        t.nest(1);
        Check.due("32: no eleventh", t.stocks(), 10);
        Check.due("37: not kept", t.waste(1), 666);
        Check.full("29: offcuts count", () -> t.stock(0, 20, 60, 'x', 1));
    }

    private static void notEnough() {
        BendTable t = shop(20, 20, '-');
        t.line(0, 3, 0);
        Check.nothing("35: no stock", () -> t.nest(0));
        t.stock(0, 20, 60, 'x', 1);
        Check.nothing("35: too few", () -> t.nest(0));
        Check.due("30: nothing is taken", t.sheets(0), 1);
        Check.due("32: nothing is kept", t.stocks(), 1);
        Check.due("36: nothing", t.took(0), 0);
        Check.nothing("37: not nested", () -> t.waste(0));
        Check.nothing("40: not nested", () -> t.ends(0));
        Check.nothing("41: not nested", () -> t.late(0));
        t.stock(0, 20, 20, 'x', 1);
        Check.due("35: just enough", t.nest(0), 2);
        Check.due("30: of the second", t.sheets(1), 0);
    }

    private static void waste() {
        BendTable t = shop(20, 20, '-');
        t.hole(0, 0, 5, 5, 10, 10);
        t.stock(0, 20, 20, 'x', 20);
        t.line(0, 3, 0);
        t.nest(0);
        Check.due("37: its hole", t.waste(0), 250);
        Check.noPlace("37: no line", () -> t.waste(1));
        // A flat that is no rectangle: 20 by 20, and a strip and a face at half of a side.
        BendTable u = shop(20, 20, '-');
        u.face(0, 0, 'e', 0, 10, 19, 'u');
        u.stock(0, 40, 20, 'y', 1);
        u.line(0, 1, 0);
        u.nest(0);
        Check.due("37: beside the flat", u.waste(0), 250);
        // The largest sheets of all.
        BendTable v = shop(300, 300, '-');
        v.stock(0, 900, 899, 'y', 20);
        v.line(0, 40, 0);
        Check.due("35: many large ones", v.nest(0), 10);
        long sheets = 10L * 900 * 899;
        long kept = 9L * 900 * 295;
        Check.due("32: as many as there is room for", v.stocks(), 10);
        Check.due("37: of large sheets", v.waste(0), (int) ((sheets - 40 * 90000 - kept) * 1000 / sheets));
    }

    private static void angles() {
        BendTable t = new BendTable();
        Check.noPlace("38: no gauge", () -> t.measure(0, 900));
        Check.noPlace("39: no gauge", () -> t.setting(0));
        t.gauge(10, 1);
        t.gauge(20, 1);
        Check.due("39: without measures", t.setting(0), 900);
        Check.badArgument("38: 299", () -> t.measure(0, 299));
        Check.badArgument("38: 1201", () -> t.measure(0, 1201));
        Check.noPlace("38: no gauge 2, and out of range", () -> t.measure(2, 0));
        Check.due("38: the first", t.measure(0, 890), 1);
        Check.due("38: the second", t.measure(0, 896), 2);
        Check.due("39: the example", t.setting(0), 907);
        Check.due("39: another gauge", t.setting(1), 900);
        Check.due("38: the third", t.measure(0, 900), 3);
        Check.due("39: 14 by 3", t.setting(0), 904);
        Check.due("38: the fourth", t.measure(0, 900), 4);
        Check.due("38: the fifth", t.measure(0, 300), 5);
        Check.due("39: 614 by 5", t.setting(0), 1022);
        Check.due("38: still five", t.measure(0, 900), 5);
        Check.due("39: the first is out", t.setting(0), 900 + 604 / 5);
        t.measure(0, 900);
        Check.due("39: the second too", t.setting(0), 1020);
        t.measure(1, 1200);
        Check.due("39: more than was meant", t.setting(1), 600);
        t.measure(1, 901);
        Check.due("39: -301 by 2, cut", t.setting(1), 750);
        Check.noPlace("39: gauge below 0", () -> t.setting(-1));
    }

    /** Parts whose times are 8 and 6 (part 0), and 8 and 0 (part 1). */
    private static BendTable lots() {
        BendTable t = FaceAndFlatTest.shop(10, 0, 100, 90, '-');
        t.face(0, 0, 'n', 0, 100, 10, 'u');
        t.part(0, 100, 100, '-');
        t.stock(0, 900, 900, 'x', 20);
        return t;
    }

    private static void schedule() {
        BendTable t = lots();
        t.line(0, 10, 5);
        t.line(0, 5, 2);
        t.line(1, 10, 2);
        t.line(0, 1, 1);
        for (int i = 0; i < 3; i++) {
            t.nest(i);
        }
        Check.due("40: due on 2", t.ends(1), 40 + 30);
        Check.due("40: due on 2 too, by number", t.ends(2), 120);
        Check.due("40: due on 5", t.ends(0), 200 + 60);
        Check.nothing("40: not nested", () -> t.ends(3));
        t.nest(3);
        Check.due("40: due on 1", t.ends(3), 14);
        Check.due("40: all others later", t.ends(0), 208 + 60);
        Check.noPlace("40: no line", () -> t.ends(4));
        Check.noPlace("40: line below 0", () -> t.ends(-1));
        t.limits(99, 200);
        Check.nothing("40: no good order", () -> t.ends(0));
        Check.nothing("41: no good order", () -> t.late(0));
        Check.due("40: those without order are aside", t.ends(2), 80);
        // The press may be what is waited for: 10 lots of 2 on the first machine and 24 on the press.
        BendTable u = FaceAndFlatTest.shop(10, 0, 20, 10, '-');
        u.face(0, 0, 'n', 0, 20, 5, 'h');
        u.face(0, 0, 's', 0, 20, 5, 'u');
        u.part(0, 20, 10, '-');
        u.stock(0, 900, 900, 'x', 20);
        u.line(0, 1, 0);
        u.line(0, 2, 0);
        u.line(1, 1, 0);
        u.nest(0);
        u.nest(1);
        u.nest(2);
        Check.due("27: of 80", u.flatTime(0), 2);
        Check.due("28: a hem and a bend", u.pressTime(0), 18);
        Check.due("40: alone", u.ends(0), 20);
        Check.due("40: behind the press", u.ends(1), 20 + 36);
        Check.due("40: without bends, behind the press too", u.ends(2), 56);
    }

    private static void lateness() {
        // 8 for each of 60 pieces are 480, the end of day 0.
        BendTable t = lots();
        t.line(1, 40, 0);
        t.line(1, 20, 0);
        t.line(1, 1, 0);
        t.line(1, 1, 1);
        for (int i = 0; i < 4; i++) {
            t.nest(i);
        }
        Check.due("40: the end of the day", t.ends(1), 480);
        Check.due("41: its end too", t.late(1), 0);
        Check.due("41: on the next day", t.late(2), 1);
        Check.due("41: due on the next day", t.late(3), 0);
        Check.due("41: early", t.late(0), 0);
        Check.noPlace("41: no line", () -> t.late(4));
        BendTable v = FaceAndFlatTest.shop(10, 0, 13, 12, '-');
        v.hole(0, 0, 2, 2, 9, 8);
        v.tool(9, 1);
        v.part(0, 4, 4, '-');
        v.stock(0, 900, 900, 'x', 20);
        Check.due("27: 8 hits, a tool, and an edge of 50", v.flatTime(0), 14);
        v.line(0, 34, 0);
        v.line(1, 4, 0);
        v.line(1, 1, 0);
        for (int i = 0; i < 3; i++) {
            v.nest(i);
        }
        Check.due("40: the last minute", v.ends(1), 480);
        Check.due("41: the last minute", v.late(1), 0);
        Check.due("40: the first minute of a day", v.ends(2), 481);
        Check.due("41: the first minute of a day", v.late(2), 1);
        for (int i = 4; i < 10; i++) {
            t.line(1, 40, 0);
            t.nest(i);
        }
        Check.due("41: 61 and 240 pieces", t.late(9), (8 * 301 - 1) / 480);
        Check.due("41: and one more", t.late(3), (8 * 302 - 1) / 480 - 1);
    }

    private static void prices() {
        BendTable t = FaceAndFlatTest.shop(10, 1, 40, 40, '-');
        t.line(0, 7, 1);
        Check.due("42: without bends", t.price(0), 1198L);
        Check.noPlace("42: no line", () -> t.price(1));
        Check.noPlace("42: line below 0", () -> t.price(-1));
        BendTable u = FaceAndFlatTest.shop(13, 2, 51, 31, '-');
        u.face(0, 0, 'e', 0, 20, 10, 'h');
        u.line(0, 3, 0);
        // 63 by 31 by 13 are 25389, and the outline is 51 + 31 + 51 + 31 + 24.
        Check.due("42: the rectangle around", u.price(0), 3L * (253 + 4 + 12) + 50);
        u.limits(19, 200);
        Check.nothing("42: no good order", () -> u.price(0));
        u.limits(20, 200);
        Check.due("42: again", u.price(0), 857L);
    }

    private static void shares() {
        BendTable t = shop(20, 20, '-');
        Check.undefined("43: no lines", t::nestedShare);
        t.stock(0, 900, 900, 'x', 1);
        t.line(0, 1, 0);
        t.line(0, 2, 0);
        Check.due("43: none nested", t.nestedShare(), 0f);
        t.nest(0);
        Check.due("43: a third", t.nestedShare(), 1f / 3f);
        t.nest(1);
        Check.due("43: all", t.nestedShare(), 1f);
    }

    private static void meanAdditions() {
        BendTable t = FaceAndFlatTest.shop(10, 3, 40, 40, '-');
        Check.undefined("44: no bends", () -> t.meanAddition(0));
        t.face(0, 0, 'e', 0, 40, 10, 'u');
        Check.due("44: one", t.meanAddition(0), 3.0);
        t.face(0, 0, 'w', 0, 40, 10, 'h');
        Check.due("44: two", t.meanAddition(0), 3.0);
        Check.noPlace("44: no part", () -> t.meanAddition(1));
        Check.noPlace("44: part below 0", () -> t.meanAddition(-1));
    }

    private static void checksums() {
        BendTable t = FaceAndFlatTest.shop(10, 2, 50, 30, '-');
        Check.due("45: a part", t.checksum(), ((7L * 31 + 1500) * 31 + 160) * 31 + 1);
        t.face(0, 0, 'e', 0, 30, 21, 'u');
        long first = ((7L * 31 + 1500 + 23 * 30) * 31 + 206) * 31;
        Check.due("45: without order", t.checksum(), first);
        t.part(0, 10, 10, 'x');
        t.hole(1, 0, 1, 1, 2, 3);
        Check.due("45: two parts", t.checksum(), ((first * 31 + 94) * 31 + 40) * 31 + 1);
        for (int i = 2; i < 8; i++) {
            t.part(0, 300, 300, 'x');
        }
        long all = t.checksum();
        long want = ((first * 31 + 94) * 31 + 40) * 31 + 1;
        for (int i = 2; i < 8; i++) {
            want = ((want * 31 + 90000) * 31 + 1200) * 31 + 1;
        }
        Check.due("45: eight parts, wrapped around", all, want);
    }

    private static void soundness() {
        BendTable t = lots();
        Check.due("46: parts", t.isSound());
        t.face(0, 0, 'e', 0, 90, 10, 'd');
        t.face(0, 0, 's', 0, 100, 20, 'd');
        t.face(0, 2, 'e', 0, 90, 5, 'u');
        t.line(0, 40, 0);
        t.nest(0);
        Check.due("46: bends and a nest", t.isSound());
        t.tools(5, 12, 8, 60);
        Check.due("46: other tools", t.isSound());
        t.limits(1, 0);
        Check.due("46: no order", t.isSound());
    }
}
