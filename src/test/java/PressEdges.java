/** Promises 17 to 23 at their edges: the press, what is struck, and the orders of bends. */
final class PressEdges {
    private static final String LETTERS = "pdbmlf";

    private PressEdges() {
    }

    static void run() {
        toolRanges();
        toolChanges();
        limitRanges();
        forceNumbers();
        forceCut();
        strikeNumbers();
        strikeOrder();
        clearHeight();
        punchWidth();
        punchBetweenEnds();
        dieWidth();
        dieBetweenEnds();
        bedDepth();
        upperSide();
        bentFaceLookedAt();
        firstFaceLookedAt();
        lastFaceLookedAt();
        otherPartFolded();
        hemStruck();
        aheadAndBehind();
        metAheadOnly();
        struckAheadOnly();
        struckBehindOnly();
        lengthAndForce();
        firstLetter();
        noBends();
        mostOrders();
        noGoodOrder();
        turnedOverAndAbout();
        firstOfSeveral();
        bendPlaces();
        searchedAgain();
    }

    // ---- promises 17 and 18

    private static void toolRanges() {
        Edge.range("17: punch", 1, 60, Shops.BUSY, (t, n) -> t.tools(n, 20, 8, 60));
        Edge.range("17: clear height", 0, 100, Shops.BUSY, (t, n) -> t.tools(5, n, 8, 60));
        Edge.range("17: die", 1, 60, Shops.BUSY, (t, n) -> t.tools(5, 20, n, 60));
        Edge.range("17: bed", 1, 300, Shops.BUSY, (t, n) -> t.tools(5, 20, 8, n));
        // A number out of range keeps the others from being set, those ahead of it and behind it.
        int[][] bad = {{0, 30, 9, 70}, {6, 101, 9, 70}, {6, 30, 61, 70}, {6, 30, 9, 301}, {6, 30, 9, 0}, {61, -1, 0, 0}};
        for (int[] b : bad) {
            Edge.badArgument("17: all or nothing", Shops.FULL, t -> t.tools(b[0], b[1], b[2], b[3]));
        }
    }

    private static void toolChanges() {
        BendTable t = new BendTable();
        int[] now = {5, 20, 8, 60};
        // Each set of them, as bits, in turn.
        for (int set = 0; set < 16; set++) {
            for (int i = 0; i < 4; i++) {
                now[i] += set >> i & 1;
            }
            String name = "17: changed are " + Integer.toBinaryString(set);
            Check.due(name, t.tools(now[0], now[1], now[2], now[3]), Integer.bitCount(set));
            Check.due(name + ", and then none", t.tools(now[0], now[1], now[2], now[3]), 0);
        }
        Check.due("17: to the least", t.tools(1, 0, 1, 1), 4);
        Check.due("17: to the most", t.tools(60, 100, 60, 300), 4);
    }

    private static void limitRanges() {
        Edge.range("18: length", 1, 999, Shops.BUSY, (t, n) -> t.limits(n, 200));
        Edge.range("18: force", 0, 999, Shops.BUSY, (t, n) -> t.limits(400, n));
        Edge.badArgument("18: a bad length leaves the force", Shops.BUSY, t -> t.limits(0, 7));
        Edge.badArgument("18: a bad force leaves the length", Shops.BUSY, t -> t.limits(1, 1000));
        BendTable t = new BendTable();
        Check.due("18: the first force", t.limits(1, 0), 200);
        Check.due("18: a refused one", Edge.answer(t, s -> s.limits(1, -1)), IllegalArgumentException.class);
        Check.due("18: 0 was the force", t.limits(999, 999), 0);
        Check.due("18: 999 was the force", t.limits(999, 5), 999);
        Check.due("18: 5 was the force", t.limits(400, 5), 5);
    }

    // ---- promise 19

    private static void forceNumbers() {
        Edge.numbers("19: part", 0, 3, Shops.BUSY, (t, n) -> t.force(n, 1));
        Edge.numbers("19: part of none", 0, -1, Shops.EMPTY, (t, n) -> t.force(n, 1));
        Edge.numbers("19: bend", 1, 3, Shops.BUSY, (t, n) -> t.force(0, n));
        Edge.numbers("19: bend of 7", 1, 7, Shops.FULL, (t, n) -> t.force(0, n));
        Edge.numbers("19: bend of none", 1, 0, Shops.FULL, (t, n) -> t.force(4, n));
    }

    private static int force(int thickness, int length, int die) {
        BendTable t = Shops.of(thickness, 0, 300, 300, '-');
        t.face(0, 0, 'e', 0, length, 10, 'd');
        t.tools(5, 20, die, 60);
        return t.force(0, 1);
    }

    private static void forceCut() {
        Check.due("19: the most", force(60, 300, 1), 1080);
        Check.due("19: the least", force(5, 1, 60), 0);
        Check.due("19: 999 by 1000, cut", force(10, 10, 1), 1);
        Check.due("19: 900 by 1000, cut", force(10, 9, 1), 0);
        Check.due("19: 1001 by 1000, cut", force(11, 9, 1), 1);
        Check.due("19: 15876 by 8000, cut", force(21, 36, 8), 1);
        Check.due("19: 16000 by 8000", force(20, 40, 8), 2);
        Check.due("19: 16200 by 8000, cut", force(18, 50, 8), 2);
        Check.due("19: 60000 by 60000", force(20, 150, 60), 1);
    }

    // ---- promise 20

    private static void strikeNumbers() {
        Edge.numbers("20: part", 0, 3, Shops.BUSY, (t, n) -> t.strikes(n, 0, 1));
        Edge.numbers("20: part of none", 0, -1, Shops.EMPTY, (t, n) -> t.strikes(n, 0, 1));
        Edge.numbers("20: bend", 1, 3, Shops.BUSY, (t, n) -> t.strikes(0, 0, n));
        Edge.numbers("20: bend of 7", 1, 7, Shops.FULL, (t, n) -> t.strikes(0, 0, n));
        Edge.numbers("20: bend of none", 1, 0, Shops.FULL, (t, n) -> t.strikes(4, 0, n));
        for (int bit = 0; bit < 32; bit++) {
            int bends = 1 << bit;
            if (bit < 1 || bit > 3) {
                Edge.badArgument("20: no bend " + bit + " among them", Shops.BUSY, t -> t.strikes(0, bends, 1));
            }
            if (bit < 1 || bit > 7) {
                Edge.answers("20: no bend " + bit + " among 6", IllegalArgumentException.class, Shops.FULL,
                        t -> t.strikes(0, bends | 252, 1));
            }
        }
        for (int bend = 1; bend <= 3; bend++) {
            int made = bend;
            Edge.notNow("20: bend " + bend + " is made", Shops.BUSY, t -> t.strikes(0, 1 << made, made));
            Edge.notNow("20: bend " + bend + " is made with all", Shops.BUSY, t -> t.strikes(0, 14, made));
            Edge.answers("20: all but " + bend + " are made", true, Shops.BUSY,
                    t -> (LETTERS + "-").indexOf(t.strikes(0, 14 & ~(1 << made), made)) >= 0);
        }
        Edge.answers("20: 6 of 7 are made", '-', Shops.FULL, t -> t.strikes(0, 126, 7));
    }

    private static void strikeOrder() {
        Edge.noPlace("20: no part ahead of another bend", Shops.BUSY, t -> t.strikes(4, 1, 1));
        Edge.noPlace("20: no bend ahead of another bend", Shops.BUSY, t -> t.strikes(0, 1, 4));
        Edge.noPlace("20: no bend 0, which would be made", Shops.BUSY, t -> t.strikes(0, 1, 0));
        Edge.noPlace("20: no bend 4, which would be made", Shops.BUSY, t -> t.strikes(0, 16, 4));
        Edge.noPlace("20: no bend below 0", Shops.BUSY, t -> t.strikes(0, -1, -1));
        Edge.badArgument("20: another bend ahead of one that is made", Shops.BUSY, t -> t.strikes(0, 3, 1));
        Edge.badArgument("20: bend 4 ahead of one that is made", Shops.BUSY, t -> t.strikes(0, 18, 1));
        Edge.badArgument("20: all bits", Shops.BUSY, t -> t.strikes(0, -1, 1));
    }

    /** A face with a wall at its west, made, and a bend from `from` up to 60 at its east. */
    private static BendTable walled(int width, char wall, int height, int from) {
        BendTable t = Shops.of(10, 0, width, 60, '-');
        t.face(0, 0, 'w', 0, 30, height, wall);
        t.face(0, 0, 'e', from, 60 - from, 3, 'u');
        return t;
    }

    private static char struckBy(int width, char wall, int height, int from, int... tools) {
        BendTable t = walled(width, wall, height, from);
        t.tools(tools[0], tools[1], tools[2], tools[3]);
        Check.due("20: unmade, the wall strikes nothing", t.strikes(0, 0, 2), '-');
        return t.strikes(0, 2, 2);
    }

    private static void clearHeight() {
        Check.due("20: as high as it is clear", struckBy(40, 'u', 30, 0, 60, 30, 8, 60), '-');
        Check.due("20: higher by 1", struckBy(40, 'u', 31, 0, 60, 30, 8, 60), 'p');
        Check.due("20: as high as 100", struckBy(40, 'u', 100, 0, 60, 100, 8, 60), '-');
        Check.due("20: higher than 100", struckBy(40, 'u', 101, 0, 60, 100, 8, 60), 'p');
    }

    private static void punchWidth() {
        Check.due("20: as far as the punch is wide", struckBy(40, 'u', 31, 0, 40, 30, 8, 60), '-');
        Check.due("20: nearer by 1", struckBy(40, 'u', 31, 0, 41, 30, 8, 60), 'p');
        Check.due("20: with a punch of 60 at 60", struckBy(60, 'u', 31, 0, 60, 30, 8, 60), '-');
        Check.due("20: with a punch of 60 at 59", struckBy(59, 'u', 31, 0, 60, 30, 8, 60), 'p');
        Check.due("20: beyond the line, as far as the punch is wide", beyond(6, 'u', 6, 20, 1), '-');
        Check.due("20: beyond the line, nearer by 1", beyond(5, 'u', 6, 20, 1), 'p');
        Check.due("20: beyond the line, and it is clear", beyond(5, 'u', 6, 30, 1), '-');
    }

    /** A wall of 30, that has come round a corner, stands beyond the line, as far as is told. */
    private static char beyond(int distance, char bend, int punch, int clear, int die) {
        BendTable t = Shops.of(10, 0, 40, 40, '-');
        t.face(0, 0, 'n', 0, 40, 30, 'u');
        t.face(0, 1, 'e', 0, 30, distance, 'u');
        t.face(0, 2, 'e', 0, 30, 10, 'u');
        t.face(0, 0, 'e', 0, 40, 2, bend);
        t.tools(punch, clear, die, 60);
        Check.due("20: it has not yet come round", t.strikes(0, 2, 4), '-');
        return t.strikes(0, 2 + 8, 4);
    }

    private static void punchBetweenEnds() {
        // The wall stands from 0 to 30, the bend reaches from 29 on, or from 30.
        Check.due("20: between the ends by 1", struckBy(40, 'u', 31, 29, 41, 30, 8, 60), 'p');
        Check.due("20: up to the lower end", struckBy(40, 'u', 31, 30, 41, 30, 8, 60), '-');
        // Now a wall from 30 to 60, and a bend up to 31, or up to 30.
        for (int length = 30; length <= 31; length++) {
            BendTable t = Shops.of(10, 0, 40, 60, '-');
            t.face(0, 0, 'w', 30, 30, 31, 'u');
            t.face(0, 0, 'e', 0, length, 3, 'u');
            t.tools(41, 30, 8, 60);
            Check.due("20: up to " + length + " of a wall from 30 on", t.strikes(0, 2, 2), length > 30 ? 'p' : '-');
        }
        // A wall without a stretch along the line stands at 20.
        Check.due("20: across, at the upper end", across('u', 0, 20), '-');
        Check.due("20: across, ahead of the upper end", across('u', 0, 21), 'p');
        Check.due("20: across, at the lower end", across('u', 20, 20), '-');
        Check.due("20: across, behind the lower end", across('u', 19, 20), 'p');
    }

    private static char across(char bend, int distance, int length) {
        BendTable t = Shops.of(10, 0, 40, 60, '-');
        t.face(0, 0, 'e', 0, 20, 20, 'u');
        t.face(0, 1, 'n', 0, 20, 31, 'u');
        t.face(0, 0, 'w', distance, length, 3, bend);
        t.tools(60, 30, 60, 60);
        return t.strikes(0, 4, 3);
    }

    private static void dieWidth() {
        Check.due("20: as far as the die is wide", struckBy(40, 'd', 20, 0, 60, 100, 40, 60), '-');
        Check.due("20: nearer than the die by 1", struckBy(40, 'd', 20, 0, 60, 100, 41, 60), 'd');
        Check.due("20: with a die of 60 at 60", struckBy(60, 'd', 20, 0, 60, 100, 60, 60), '-');
        Check.due("20: with a die of 60 at 59", struckBy(59, 'd', 20, 0, 60, 100, 60, 60), 'd');
        Check.due("20: below 0 by 1", struckBy(40, 'd', 1, 0, 60, 100, 41, 60), 'd');
        Check.due("20: what lies at 0 is not below", struckBy(40, 'h', 1, 0, 1, 100, 60, 60), '-');
        Check.due("20: below and beyond the line, as far as the die is wide", beyond(6, 'd', 1, 20, 6), '-');
        Check.due("20: below and beyond the line, nearer by 1", beyond(5, 'd', 1, 20, 6), 'd');
    }

    private static void dieBetweenEnds() {
        Check.due("20: below, between the ends by 1", struckBy(40, 'd', 20, 29, 1, 100, 41, 60), 'd');
        Check.due("20: below, up to the lower end", struckBy(40, 'd', 20, 30, 1, 100, 41, 60), '-');
        for (int length = 30; length <= 31; length++) {
            BendTable t = Shops.of(10, 0, 40, 60, '-');
            t.face(0, 0, 'w', 30, 30, 20, 'd');
            t.face(0, 0, 'e', 0, length, 3, 'u');
            t.tools(1, 100, 41, 60);
            Check.due("20: below, up to " + length, t.strikes(0, 2, 2), length > 30 ? 'd' : '-');
        }
        Check.due("20: below and across, at the upper end", across('d', 0, 20), '-');
        Check.due("20: below and across, ahead of the upper end", across('d', 0, 21), 'd');
        Check.due("20: below and across, at the lower end", across('d', 20, 20), '-');
        Check.due("20: below and across, behind the lower end", across('d', 19, 20), 'd');
    }

    private static void bedDepth() {
        Check.due("20: as deep as the bed", struckBy(40, 'd', 20, 0, 60, 100, 40, 20), '-');
        Check.due("20: deeper by 1", struckBy(40, 'd', 21, 0, 60, 100, 40, 20), 'b');
        Check.due("20: as deep as 300", struckBy(40, 'd', 300, 0, 60, 100, 40, 300), '-');
        Check.due("20: as deep as 1", struckBy(40, 'd', 1, 0, 60, 100, 40, 1), '-');
        Check.due("20: deeper than 1", struckBy(40, 'd', 2, 0, 60, 100, 40, 1), 'b');
        // The bed is everywhere: beside the ends of the bend, and far from its line.
        Check.due("20: deeper beside the bend", struckBy(300, 'd', 21, 30, 60, 100, 40, 20), 'b');
        // A face without a stretch in the depth, at the bed and below it.
        for (int depth = 20; depth <= 21; depth++) {
            BendTable t = Shops.of(10, 0, 40, 60, '-');
            t.face(0, 0, 'w', 0, 60, depth, 'd');
            t.face(0, 1, 'w', 0, 60, 10, 'u');
            t.face(0, 0, 'e', 0, 60, 3, 'u');
            t.tools(1, 100, 1, 20);
            Check.due("20: flat at a depth of " + depth, t.strikes(0, 6, 3), depth > 20 ? 'b' : '-');
        }
    }

    private static void upperSide() {
        // With 'd' the upper side lies below: what stands up hangs down then, and the other way round.
        for (char bend : "udh".toCharArray()) {
            BendTable t = Shops.of(10, 0, 40, 60, '-');
            t.face(0, 0, 'w', 0, 60, 31, 'u');
            t.face(0, 0, 'e', 0, 60, 3, bend);
            t.tools(41, 30, 1, 60);
            Check.due("20: a wall up at " + bend, t.strikes(0, 2, 2), bend == 'd' ? '-' : 'p');
            t.tools(41, 30, 41, 60);
            Check.due("20: a wall up, and a wide die, at " + bend, t.strikes(0, 2, 2), bend == 'd' ? 'd' : 'p');
            t.tools(1, 30, 1, 30);
            Check.due("20: a wall up, and a low bed, at " + bend, t.strikes(0, 2, 2), bend == 'd' ? 'b' : '-');
            BendTable u = Shops.of(10, 0, 40, 60, '-');
            u.face(0, 0, 'w', 0, 60, 31, 'd');
            u.face(0, 0, 'e', 0, 60, 3, bend);
            u.tools(41, 30, 1, 60);
            Check.due("20: a wall down at " + bend, u.strikes(0, 2, 2), bend == 'd' ? 'p' : '-');
            u.tools(1, 30, 41, 60);
            Check.due("20: a wall down, and a wide die, at " + bend, u.strikes(0, 2, 2), bend == 'd' ? '-' : 'd');
        }
    }

    private static void bentFaceLookedAt() {
        for (char bend : "ud".toCharArray()) {
            BendTable t = Shops.of(10, 0, 40, 60, '-');
            t.face(0, 0, 'e', 0, 60, 31, bend);
            t.tools(1, 31, 1, 1);
            Check.due("20: bent up to the clear height, " + bend, t.strikes(0, 0, 1), '-');
            t.tools(1, 30, 1, 1);
            Check.due("20: bent up over the clear height, " + bend, t.strikes(0, 0, 1), 'p');
        }
        // What hangs at the bent face goes along with it.
        BendTable t = Shops.of(10, 0, 40, 60, '-');
        t.face(0, 0, 'e', 0, 60, 10, 'u');
        t.face(0, 1, 'e', 0, 60, 10, 'u');
        t.tools(1, 20, 1, 1);
        Check.due("20: with what hangs at it, as high as it is clear", t.strikes(0, 0, 1), '-');
        t.tools(1, 19, 1, 1);
        Check.due("20: with what hangs at it, higher", t.strikes(0, 0, 1), 'p');
        t.tools(10, 9, 1, 1);
        Check.due("20: that is bent back to as high as 10", t.strikes(0, 4, 1), 'p');
        t.tools(10, 10, 1, 1);
        Check.due("20: that is bent back, and it is clear", t.strikes(0, 4, 1), '-');
    }

    /** The face 0 stands beside the line when a bend is made at a face that is bent itself. */
    private static void firstFaceLookedAt() {
        // Bend 1 up: seen from the face 1, the face 0 is a wall of 40 up, 10 behind the line of bend 2.
        BendTable t = Shops.of(10, 0, 40, 60, '-');
        t.face(0, 0, 'e', 0, 60, 10, 'u');
        t.face(0, 1, 'e', 0, 60, 5, 'u');
        t.tools(11, 39, 8, 60);
        Check.due("20: the face 0 strikes the punch", t.strikes(0, 2, 2), 'p');
        t.tools(10, 39, 8, 60);
        Check.due("20: the face 0 is beside the punch", t.strikes(0, 2, 2), '-');
        t.tools(11, 40, 8, 60);
        Check.due("20: the face 0 is as high as it is clear", t.strikes(0, 2, 2), '-');
        // Bend 1 down: the face 0 is a wall of 40 down.
        BendTable u = Shops.of(10, 0, 40, 60, '-');
        u.face(0, 0, 'e', 0, 60, 10, 'd');
        u.face(0, 1, 'e', 0, 60, 5, 'u');
        u.tools(1, 39, 11, 60);
        Check.due("20: the face 0 strikes the die", u.strikes(0, 2, 2), 'd');
        u.tools(1, 39, 10, 60);
        Check.due("20: the face 0 is beside the die", u.strikes(0, 2, 2), '-');
        u.tools(1, 39, 10, 39);
        Check.due("20: the face 0 strikes the bed", u.strikes(0, 2, 2), 'b');
        u.tools(1, 39, 10, 40);
        Check.due("20: the face 0 is as deep as the bed", u.strikes(0, 2, 2), '-');
        // The face 0 comes up to the end of the bend only.
        for (int length = 20; length <= 21; length++) {
            BendTable v = Shops.of(10, 0, 40, 60, '-');
            v.face(0, 0, 'e', 0, 60, 30, 'u');
            v.face(0, 1, 'n', 0, 30, 30, 'u');
            v.face(0, 2, 'e', 0, length, 5, 'u');
            v.tools(60, 30, 8, 60);
            Check.due("20: the face 0 is beside a bend of " + length, v.strikes(0, 2, 3), '-');
        }
    }

    /** Seven bends, of which only the last one's face is too high, and a smaller part beside it. */
    private static void lastFaceLookedAt() {
        BendTable t = Shops.of(10, 0, 100, 50, '-');
        for (int i = 0; i < 6; i++) {
            t.face(0, 0, 'n', 10 * i, 10, 5, 'u');
        }
        t.face(0, 0, 's', 0, 100, 30, 'u');
        t.part(0, 100, 60, '-');
        t.face(1, 0, 'e', 0, 60, 5, 'u');
        t.tools(60, 20, 8, 60);
        Check.due("20: the face 7", t.strikes(0, 128, 1), 'p');
        Check.due("20: not yet", t.strikes(0, 124, 1), '-');
        Check.due("23: it is always in the way", t.orders(0), 0);
        Check.due("20: what was laid before is no face of this part", t.strikes(1, 0, 1), '-');
        Check.due("23: nor in its orders", t.orders(1), 1);
        Check.due("16: nor does it meet", t.isMet(1, 2), false);
    }

    /** A part of 8 faces, all of them walls in the way, is folded just ahead of each question about another part. */
    private static void otherPartFolded() {
        BendTable t = Shops.of(10, 0, 100, 70, '-');
        for (int i = 0; i < 7; i++) {
            t.face(0, 0, 'e', 10 * i, 10, 30, 'u');
        }
        t.part(0, 100, 70, '-');
        t.face(1, 0, 'e', 0, 70, 5, 'u');
        Check.due("15: a wall of the one part", t.spaceAt(0, 254, 7, 'z', true), 30);
        Check.due("20: is not in the way of the other one", t.strikes(1, 0, 1), '-');
        Check.due("15: a wall of the one part again", t.spaceAt(0, 254, 2, 'z', true), 30);
        Check.due("23: nor of its orders", t.orders(1), 1);
        Check.due("15: and once more", t.spaceAt(0, 254, 3, 'z', true), 30);
        Check.due("16: nor does it meet", t.isMet(1, 2), false);
        Check.due("14: nor is it a fault", t.hasFault(1, 'c'), false);
    }

    private static void hemStruck() {
        // A hem lies 1 high, over the face, from the line on: it is struck when nothing is clear.
        BendTable t = Shops.of(10, 0, 40, 60, '-');
        t.face(0, 0, 'e', 0, 60, 10, 'h');
        t.tools(1, 1, 60, 1);
        Check.due("20: a hem, clear for 1", t.strikes(0, 0, 1), '-');
        t.tools(1, 0, 60, 1);
        Check.due("20: a hem, clear for 0", t.strikes(0, 0, 1), 'p');
        // A hem from the other side ends 5 ahead of the line, or 4.
        for (int depth = 35; depth <= 36; depth++) {
            BendTable u = Shops.of(10, 0, 40, 60, '-');
            u.face(0, 0, 'w', 0, 60, depth, 'h');
            u.face(0, 0, 'e', 0, 60, 10, 'd');
            u.tools(1, 20, 5, 60);
            Check.due("20: a hem below, up to " + depth, u.strikes(0, 2, 2), depth > 35 ? 'd' : '-');
            BendTable v = Shops.of(10, 0, 40, 60, '-');
            v.face(0, 0, 'w', 0, 60, depth, 'h');
            v.face(0, 0, 'e', 0, 60, 10, 'h');
            v.tools(5, 1, 1, 60);
            Check.due("20: hems that meet, up to " + depth, v.strikes(0, 2, 2), 'm');
        }
        for (int depth = 44; depth <= 46; depth++) {
            // Beyond the line: a hem that is longer than the face reaches out by 4 to 6, and is near in any case.
            BendTable u = Shops.of(10, 0, 40, 60, '-');
            u.face(0, 0, 'w', 0, 60, depth, 'h');
            u.face(0, 0, 'e', 0, 60, 10, 'd');
            u.tools(1, 20, 1, 60);
            Check.due("20: a hem over the line", u.strikes(0, 2, 2), 'd');
        }
    }

    private static void aheadAndBehind() {
        BendTable t = Shops.of(10, 0, 40, 40, '-');
        t.face(0, 0, 'e', 0, 40, 10, 'h');
        t.face(0, 0, 'w', 0, 40, 31, 'h');
        t.face(0, 0, 'n', 0, 40, 5, 'u');
        Check.due("20: meet ahead of it and behind it", t.strikes(0, 6, 3), 'm');
        Check.due("20: meet behind it only", t.strikes(0, 2, 2), 'm');
        Check.due("20: meet neither way", t.strikes(0, 2, 3), '-');
        Check.due("23: no order, as all of them meet at last", t.orders(0), 0);
    }

    private static void metAheadOnly() {
        // Face 3 comes down through the plane of the face 0, and through face 6, which bend 4 takes away.
        BendTable t = Shops.of(10, 0, 40, 40, '-');
        t.face(0, 0, 'e', 0, 40, 10, 'u');
        t.face(0, 1, 'e', 0, 40, 5, 'd');
        t.face(0, 2, 'e', 0, 40, 15, 'd');
        t.face(0, 0, 'n', 0, 40, 10, 'u');
        t.face(0, 4, 'e', 0, 10, 20, 'u');
        t.face(0, 5, 's', 0, 20, 10, 'u');
        Check.due("16: ahead of it", t.isMet(0, 14), true);
        Check.due("16: behind it", t.isMet(0, 14 + 16), false);
        Check.due("20: meet ahead of it only", t.strikes(0, 14, 4), 'm');
        Check.due("20: do not meet yet", t.strikes(0, 6, 4), '-');
    }

    private static void struckAheadOnly() {
        // A wall hangs down from the face that is bent, 10 beyond the line, until the bend takes it away.
        BendTable t = Shops.of(10, 0, 40, 40, '-');
        t.face(0, 0, 'e', 0, 40, 10, 'u');
        t.face(0, 1, 'e', 0, 40, 61, 'd');
        t.tools(5, 100, 10, 60);
        Check.due("20: the bed ahead of it", t.strikes(0, 4, 1), 'b');
        Check.due("20: not without the wall", t.strikes(0, 0, 1), '-');
        t.tools(5, 100, 11, 61);
        Check.due("20: the die ahead of it", t.strikes(0, 4, 1), 'd');
        t.tools(5, 100, 10, 61);
        Check.due("20: neither of them", t.strikes(0, 4, 1), '-');
        BendTable u = Shops.of(10, 0, 40, 40, '-');
        u.face(0, 0, 'e', 0, 40, 10, 'd');
        u.face(0, 1, 'e', 0, 40, 61, 'd');
        u.tools(11, 20, 8, 60);
        Check.due("20: the punch ahead of it", u.strikes(0, 4, 1), 'p');
        u.tools(10, 20, 8, 60);
        Check.due("20: not the punch", u.strikes(0, 4, 1), '-');
    }

    private static void struckBehindOnly() {
        // What hangs at the west of face 2 goes down by 30 when face 1 goes up, beside the bend, or below its line.
        BendTable t = Shops.of(10, 0, 40, 40, '-');
        t.face(0, 0, 'e', 0, 40, 10, 'u');
        t.face(0, 1, 'n', 0, 10, 5, 'u');
        t.face(0, 2, 'w', 0, 5, 30, 'u');
        t.tools(5, 20, 60, 29);
        Check.due("20: the bed behind it", t.strikes(0, 0, 1), 'b');
        t.tools(5, 20, 60, 30);
        Check.due("20: as deep as the bed behind it", t.strikes(0, 0, 1), '-');
        t.face(0, 3, 's', 0, 30, 10, 'u');
        t.tools(5, 20, 1, 30);
        Check.due("16: it lies on the face 0 ahead of it", t.isMet(0, 0));
        Check.due("20: the die behind it", t.strikes(0, 0, 1), 'd');
    }

    private static void lengthAndForce() {
        // The force of 60 by 30 by 30 by 8000 is 6.
        BendTable t = Shops.of(30, 0, 100, 60, '-');
        t.face(0, 0, 'e', 0, 60, 10, 'u');
        int[][] limits = {{60, 6, '-'}, {59, 6, 'l'}, {60, 5, 'f'}, {59, 5, 'l'}, {999, 999, '-'}, {1, 999, 'l'},
            {999, 0, 'f'}, {61, 7, '-'}};
        for (int[] l : limits) {
            t.limits(l[0], l[1]);
            Check.due("20: limits " + l[0] + " and " + l[1], t.strikes(0, 0, 1), (char) l[2]);
            Check.due("23: limits " + l[0] + " and " + l[1], t.orders(0), l[2] == '-' ? 1 : 0);
        }
        BendTable none = Shops.of(5, 0, 100, 60, '-');
        none.face(0, 0, 'e', 0, 1, 10, 'u');
        none.limits(1, 0);
        Check.due("20: a force of 0 is within 0", none.strikes(0, 0, 1), '-');
        BendTable most = Shops.of(60, 0, 300, 60, '-');
        most.face(0, 0, 'n', 0, 300, 10, 'u');
        most.tools(5, 20, 1, 60);
        most.limits(300, 999);
        Check.due("20: a force of 1080 is over any limit", most.strikes(0, 0, 1), 'f');
    }

    /** All six hold at first; then one after the other holds no more, and the next one is the first. */
    private static void firstLetter() {
        BendTable t = Shops.of(60, 0, 20, 60, '-');
        t.face(0, 0, 'w', 0, 30, 30, 'u');
        t.face(0, 0, 'w', 30, 30, 30, 'd');
        t.face(0, 0, 'e', 0, 60, 5, 'u');
        t.face(0, 0, 'n', 0, 20, 10, 'h');
        t.face(0, 0, 's', 0, 20, 51, 'h');
        int all = 2 + 4 + 16 + 32;
        t.limits(59, 0);
        t.tools(60, 29, 60, 29);
        Check.due("20: p of all six", t.strikes(0, all, 3), 'p');
        t.tools(60, 30, 60, 29);
        Check.due("20: d of five", t.strikes(0, all, 3), 'd');
        t.tools(60, 30, 20, 29);
        Check.due("20: b of four", t.strikes(0, all, 3), 'b');
        t.tools(60, 30, 20, 30);
        Check.due("20: m of three", t.strikes(0, all, 3), 'm');
        Check.due("20: l of two", t.strikes(0, all - 32, 3), 'l');
        t.limits(60, 9);
        Check.due("20: f alone", t.strikes(0, all - 32, 3), 'f');
        t.limits(60, 10);
        Check.due("20: nothing of all that", t.strikes(0, all - 32, 3), '-');
        t.limits(60, 0);
        Check.due("20: m ahead of f", t.strikes(0, all, 3), 'm');
        // Each of the first four is ahead of the last two, and p ahead of b, though d holds not.
        t.limits(59, 0);
        t.tools(60, 29, 20, 29);
        Check.due("20: p ahead of b", t.strikes(0, all, 3), 'p');
        t.tools(60, 29, 20, 30);
        Check.due("20: p ahead of m", t.strikes(0, all, 3), 'p');
        Check.due("20: p ahead of l and f", t.strikes(0, all - 32, 3), 'p');
        t.tools(60, 30, 60, 30);
        Check.due("20: d ahead of m", t.strikes(0, all, 3), 'd');
        Check.due("20: d ahead of l and f", t.strikes(0, all - 32, 3), 'd');
        t.tools(60, 30, 20, 29);
        Check.due("20: b ahead of l and f", t.strikes(0, all - 32, 3), 'b');
    }

    // ---- promises 21 to 23

    private static void noBends() {
        Edge.numbers("21: part", 0, 3, Shops.BUSY, (t, n) -> t.cost(n));
        Edge.numbers("21: part of none", 0, -1, Shops.EMPTY, (t, n) -> t.cost(n));
        Edge.numbers("22: part", 0, 3, Shops.BUSY, (t, n) -> t.bendAt(n, 0));
        Edge.numbers("22: part of none", 0, -1, Shops.EMPTY, (t, n) -> t.bendAt(n, 0));
        Edge.numbers("23: part", 0, 3, Shops.BUSY, (t, n) -> t.orders(n));
        Edge.numbers("23: part of none", 0, -1, Shops.EMPTY, (t, n) -> t.orders(n));
        Edge.noPlace("22: no part ahead of no such place", Shops.BUSY, t -> t.bendAt(4, -1));
        Edge.answers("23: without bends there is one order", 1, Shops.FULL, t -> t.orders(4));
        Edge.answers("21: without bends it costs nothing", 0, Shops.FULL, t -> t.cost(4));
        Edge.nothing("22: without bends there is no place 0", Shops.FULL, t -> t.bendAt(4, 0));
        Edge.answers("23: without bends no limit holds", 1, Shops.FULL, t -> t.limits(1, 0) * 0 + t.orders(4));
    }

    private static void mostOrders() {
        Edge.answers("23: 7 bends in any order", 5040, Shops.FULL, t -> t.orders(0));
        // Four bends to e and w have lines along y, three to n and s along x: it is turned about once.
        Edge.answers("21: 7 bends in any order", 1, Shops.FULL, t -> t.cost(0));
        for (int i = 0; i < 7; i++) {
            int place = i;
            Edge.answers("22: place " + i + " of 7", i + 1, Shops.FULL, t -> t.bendAt(0, place));
        }
        for (int place : new int[] {-1, 7, Edge.NEAR, Edge.FAR}) {
            Edge.nothing("22: no place " + place + " of 7", Shops.FULL, t -> t.bendAt(0, place));
        }
    }

    private static void noGoodOrder() {
        // The wall of part 3 is higher than it is clear.
        Edge.nothing("21: no good order", Shops.BUSY, t -> t.cost(3));
        Edge.nothing("22: no good order", Shops.BUSY, t -> t.bendAt(3, 0));
        Edge.nothing("22: no good order, and no such place", Shops.BUSY, t -> t.bendAt(3, 1));
        Edge.nothing("28: no good order", Shops.BUSY, t -> t.pressTime(3));
        Edge.answers("23: no good order", 0, Shops.BUSY, t -> t.orders(3));
        // A bend is good by itself, and another one never is.
        BendTable t = Shops.of(10, 0, 40, 60, '-');
        t.face(0, 0, 'e', 0, 60, 10, 'u');
        t.face(0, 0, 'w', 0, 60, 21, 'u');
        Check.due("20: the first one can be made", t.strikes(0, 0, 1), '-');
        Check.due("23: each has to be made", t.orders(0), 0);
        Check.due("21: each has to be made", Edge.answer(t, s -> s.cost(0)), java.util.NoSuchElementException.class);
    }

    private static int cost(char first, char firstBend, char second, char secondBend) {
        BendTable t = Shops.of(10, 0, 50, 30, '-');
        t.face(0, 0, first, 5, 10, 5, firstBend);
        t.face(0, 0, second, first == second ? 15 : 5, 10, 5, secondBend);
        return t.cost(0);
    }

    private static void turnedOverAndAbout() {
        Check.due("21: at the same side", cost('e', 'u', 'e', 'u'), 0);
        Check.due("21: a line up to its sign", cost('e', 'u', 'w', 'u'), 0);
        Check.due("21: a hem has its upper side above, too", cost('e', 'u', 'w', 'h'), 0);
        Check.due("21: turned over at the same side", cost('n', 'u', 'n', 'd'), 3);
        Check.due("21: turned over", cost('e', 'h', 'w', 'd'), 3);
        Check.due("21: turned about", cost('e', 'u', 'n', 'u'), 1);
        Check.due("21: turned about, below", cost('e', 'd', 's', 'd'), 1);
        Check.due("21: turned over and about", cost('w', 'u', 's', 'd'), 4);
        BendTable t = Shops.of(10, 0, 50, 30, '-');
        t.face(0, 0, 'e', 0, 30, 5, 'd');
        Check.due("21: ahead of the first one it is not turned", t.cost(0), 0);
    }

    private static void firstOfSeveral() {
        // u, d, u, d: the least is 3, with 1 and 3 first, or with 2 and 4 first.
        BendTable t = Shops.of(10, 0, 50, 30, '-');
        t.face(0, 0, 'e', 0, 10, 5, 'u');
        t.face(0, 0, 'e', 10, 10, 5, 'd');
        t.face(0, 0, 'e', 20, 10, 5, 'u');
        t.face(0, 0, 'w', 0, 10, 5, 'd');
        Check.due("23: any order", t.orders(0), 24);
        Check.due("21: turned over once", t.cost(0), 3);
        int[] best = {1, 3, 2, 4};
        for (int i = 0; i < 4; i++) {
            Check.due("22: the first one by its bends, " + i, t.bendAt(0, i), best[i]);
        }
        // d first: what costs least comes ahead of what is lower.
        BendTable u = Shops.of(10, 0, 50, 30, '-');
        u.face(0, 0, 'n', 0, 10, 5, 'u');
        u.face(0, 0, 'e', 0, 10, 5, 'u');
        u.face(0, 0, 'n', 20, 10, 5, 'd');
        u.face(0, 0, 'e', 20, 10, 5, 'd');
        Check.due("21: about, over, about", u.cost(0), 5);
        int[] then = {1, 2, 4, 3};
        for (int i = 0; i < 4; i++) {
            Check.due("22: the least by its cost, " + i, u.bendAt(0, i), then[i]);
        }
    }

    private static void bendPlaces() {
        // Part 0 of a busy shop has 3 bends, part 1 has one.
        for (int place : new int[] {-1, 1, 2, Edge.NEAR, Edge.FAR}) {
            Edge.nothing("22: no place " + place + " of 1", Shops.BUSY, t -> t.bendAt(1, place));
        }
        Edge.answers("22: place 0 of 1", 1, Shops.BUSY, t -> t.bendAt(1, 0));
    }

    private static void searchedAgain() {
        // With each change of the press, orders are other ones at once, and back again.
        BendTable t = Shops.of(30, 0, 40, 60, '-');
        t.face(0, 0, 'e', 0, 60, 20, 'u');
        Check.due("23: as high as it is clear", t.orders(0), 1);
        t.tools(5, 19, 8, 60);
        Check.due("23: not so high", t.orders(0), 0);
        t.tools(5, 20, 8, 60);
        Check.due("23: so high again", t.orders(0), 1);
        t.limits(59, 6);
        Check.due("23: not so long", t.orders(0), 0);
        t.limits(60, 6);
        Check.due("23: so long again", t.orders(0), 1);
        t.limits(60, 5);
        Check.due("23: not so strong", t.orders(0), 0);
        Check.due("23: a refused call is none", Edge.answer(t, s -> s.limits(60, 1000)),
                IllegalArgumentException.class);
        Check.due("23: still not so strong", t.orders(0), 0);
        t.tools(5, 20, 9, 60);
        Check.due("23: a wider die needs less", t.orders(0), 0);
        t.tools(5, 20, 10, 60);
        Check.due("23: and a wider one, still less", t.orders(0), 1);
        t.face(0, 0, 'w', 0, 60, 21, 'u');
        Check.due("23: another face", t.orders(0), 0);
        t.tools(5, 21, 10, 60);
        Check.due("23: another face, and so high", t.orders(0), 2);
    }
}
