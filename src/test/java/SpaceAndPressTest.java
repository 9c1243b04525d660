/** Promises 15 to 23: faces in space, the press, and orders of bends. */
final class SpaceAndPressTest {
    private SpaceAndPressTest() {
    }

    static void run() {
        examples();
        oneBend();
        chains();
        spaceRefuses();
        meetings();
        hems();
        toolsAndLimits();
        forces();
        punch();
        dieAndBed();
        strikesMore();
        strikesRefuses();
        orders();
        turns();
        noOrder();
        staleOrders();
    }

    private static BendTable shop(int width, int height) {
        return FaceAndFlatTest.shop(10, 2, width, height, '-');
    }

    private static void box(String name, BendTable t, int bends, int face, int... ends) {
        for (int i = 0; i < 3; i++) {
            char axis = "xyz".charAt(i);
            Check.due(name + ", least " + axis, t.spaceAt(0, bends, face, axis, false), ends[2 * i]);
            Check.due(name + ", most " + axis, t.spaceAt(0, bends, face, axis, true), ends[2 * i + 1]);
        }
    }

    private static void examples() {
        BendTable t = shop(50, 30);
        t.face(0, 0, 'e', 0, 30, 10, 'u');
        Check.due("15: the example's height", t.spaceAt(0, 2, 1, 'z', true), 10);
        Check.due("21: the example's cost", t.cost(0), 0);
        t.face(0, 0, 'w', 0, 30, 10, 'd');
        Check.due("23: the example's orders", t.orders(0), 2);
        Check.due("21: the example's cost of two", t.cost(0), 3);
        Check.due("22: the example's first bend", t.bendAt(0, 0), 1);
        Check.due("22: the example's second bend", t.bendAt(0, 1), 2);
    }

    private static void oneBend() {
        BendTable t = shop(50, 30);
        t.face(0, 0, 'e', 5, 20, 7, 'u');
        t.face(0, 0, 'w', 6, 21, 8, 'd');
        t.face(0, 0, 'n', 7, 22, 9, 'h');
        t.face(0, 0, 's', 8, 23, 10, 'u');
        box("15: face 0", t, 30, 0, 0, 50, 0, 30, 0, 0);
        box("15: e flat", t, 0, 1, 50, 57, 5, 25, 0, 0);
        box("15: w flat", t, 0, 2, -8, 0, 6, 27, 0, 0);
        box("15: n flat", t, 0, 3, 7, 29, 30, 39, 0, 0);
        box("15: s flat", t, 0, 4, 8, 31, -10, 0, 0, 0);
        box("15: e up", t, 2, 1, 50, 50, 5, 25, 0, 7);
        box("15: w down", t, 4, 2, 0, 0, 6, 27, -8, 0);
        box("15: n hemmed", t, 8, 3, 7, 29, 21, 30, 1, 1);
        box("15: s up", t, 16, 4, 8, 31, 0, 0, 0, 10);
        box("15: others only", t, 28, 1, 50, 57, 5, 25, 0, 0);
    }

    private static void chains() {
        BendTable t = shop(50, 30);
        t.face(0, 0, 'e', 0, 30, 10, 'u');
        t.face(0, 1, 'e', 0, 30, 6, 'u');
        t.face(0, 2, 'e', 0, 30, 3, 'd');
        t.face(0, 1, 'n', 2, 5, 4, 'h');
        box("15: not yet bent", t, 0, 3, 66, 69, 0, 30, 0, 0);
        box("15: carried up", t, 2, 2, 50, 50, 0, 30, 10, 16);
        box("15: back over the face 0", t, 6, 2, 44, 50, 0, 30, 10, 10);
        // Down, seen from a face whose upper side looks down.
        box("15: up again", t, 14, 3, 44, 44, 0, 30, 10, 13);
        box("15: beside, unbent", t, 2, 4, 50, 50, 30, 34, 2, 7);
        // The upper side of face 1 looks west once it stands.
        box("15: beside, hemmed", t, 18, 4, 49, 49, 26, 30, 2, 7);
        BendTable u = shop(50, 30);
        u.face(0, 0, 's', 10, 20, 9, 'h');
        u.face(0, 1, 's', 0, 20, 5, 'h');
        u.face(0, 1, 'e', 1, 3, 4, 'u');
        box("15: a hem", u, 2, 1, 10, 30, 0, 9, 1, 1);
        box("15: a hem's hem comes down again", u, 6, 2, 10, 30, 4, 9, 0, 0);
        box("15: up from what looks down", u, 10, 3, 30, 30, 5, 8, -3, 1);
    }

    private static void spaceRefuses() {
        BendTable t = shop(50, 30);
        t.face(0, 0, 'e', 0, 30, 10, 'u');
        Check.noPlace("15: no part", () -> t.spaceAt(1, 0, 0, 'x', true));
        Check.noPlace("15: no face", () -> t.spaceAt(0, 0, 2, 'x', true));
        Check.noPlace("15: face below 0, and no direction", () -> t.spaceAt(0, 0, -1, 'q', true));
        Check.badArgument("15: no direction", () -> t.spaceAt(0, 0, 0, 'w', true));
        Check.badArgument("15: no bend 0", () -> t.spaceAt(0, 1, 0, 'x', true));
        Check.badArgument("15: no bend 2", () -> t.spaceAt(0, 6, 0, 'x', true));
        Check.badArgument("15: no bend 31", () -> t.spaceAt(0, Integer.MIN_VALUE, 0, 'x', true));
        Check.noPlace("16: no part", () -> t.isMet(-1, 0));
        Check.noPlace("16: no part, no bend", () -> t.isMet(1, 1));
        Check.badArgument("16: no bend 0", () -> t.isMet(0, 1));
        Check.badArgument("16: no bend 2", () -> t.isMet(0, 4));
        Check.badArgument("16: all bits", () -> t.isMet(0, -1));
    }

    private static void meetings() {
        BendTable t = FaceAndFlatTest.shop(10, 0, 40, 40, '-');
        t.face(0, 0, 'e', 0, 40, 10, 'u');
        t.face(0, 1, 'e', 0, 40, 40, 'u');
        t.face(0, 2, 'e', 0, 40, 10, 'u');
        Check.due("16: flat", t.isMet(0, 0), false);
        Check.due("16: a tube that closes at the edge", t.isMet(0, 14), false);
        BendTable u = FaceAndFlatTest.shop(10, 0, 40, 40, '-');
        u.face(0, 0, 'e', 0, 40, 10, 'u');
        u.face(0, 1, 'e', 0, 40, 39, 'u');
        u.face(0, 2, 'e', 0, 40, 10, 'u');
        u.face(0, 3, 'e', 0, 40, 1, 'u');
        Check.due("16: ends on the face 0", u.isMet(0, 14), false);
        Check.due("16: on through the face 0", u.isMet(0, 14 - 2), false);
        Check.due("16: lies in the face 0", u.isMet(0, 30));
        Check.due("16: its end pierces", u.isMet(0, 14) || u.isMet(0, 30));
        // Two at one side of the face 0 do not meet; with one place in common of the other they do.
        BendTable v = shop(20, 20);
        v.face(0, 0, 'e', 0, 20, 10, 'u');
        v.face(0, 0, 'n', 0, 20, 10, 'u');
        v.face(0, 1, 'n', 0, 10, 5, 'u');
        Check.due("16: round the corner to the edge", v.isMet(0, 2 + 8), false);
        Check.due("16: flat on flat", v.isMet(0, 2 + 4 + 8));
        Check.due("16: of which one is not bent", v.isMet(0, 4 + 8), false);
    }

    private static void hems() {
        BendTable t = shop(40, 40);
        t.face(0, 0, 'e', 0, 40, 10, 'h');
        t.face(0, 0, 'w', 0, 40, 31, 'h');
        Check.due("16: hems of the same height", t.isMet(0, 6));
        BendTable u = shop(40, 40);
        u.face(0, 0, 'e', 0, 40, 10, 'h');
        u.face(0, 0, 'w', 0, 40, 30, 'h');
        Check.due("16: hems end to end", u.isMet(0, 6), false);
        u.face(0, 2, 'w', 0, 40, 7, 'h');
        Check.due("16: a hem's hem lies in the face 0", u.isMet(0, 4 + 8));
        BendTable v = shop(40, 40);
        v.face(0, 0, 'e', 0, 40, 10, 'u');
        v.face(0, 0, 'w', 0, 40, 41, 'h');
        Check.due("16: a hem through an edge that stands", v.isMet(0, 6));
        Check.due("16: a hem beyond an edge that lies", v.isMet(0, 4), false);
    }

    private static void toolsAndLimits() {
        BendTable t = new BendTable();
        Check.badArgument("17: punch of 0", () -> t.tools(0, 20, 8, 60));
        Check.badArgument("17: punch of 61", () -> t.tools(61, 20, 8, 60));
        Check.badArgument("17: clear below 0", () -> t.tools(5, -1, 8, 60));
        Check.badArgument("17: clear of 101", () -> t.tools(5, 101, 8, 60));
        Check.badArgument("17: die of 0", () -> t.tools(5, 20, 0, 60));
        Check.badArgument("17: die of 61", () -> t.tools(5, 20, 61, 60));
        Check.badArgument("17: bed of 0", () -> t.tools(5, 20, 8, 0));
        Check.badArgument("17: bed of 301", () -> t.tools(5, 20, 8, 301));
        Check.due("17: nothing was set", t.tools(5, 20, 8, 60), 0);
        Check.due("17: all change", t.tools(1, 0, 1, 1), 4);
        Check.due("17: one changes", t.tools(1, 0, 1, 300), 1);
        Check.due("17: three change", t.tools(60, 100, 60, 300), 3);
        Check.badArgument("18: length of 0", () -> t.limits(0, 1));
        Check.badArgument("18: length of 1000", () -> t.limits(1000, 1));
        Check.badArgument("18: force below 0", () -> t.limits(1, -1));
        Check.badArgument("18: force of 1000", () -> t.limits(1, 1000));
        Check.due("18: the force before", t.limits(1, 0), 200);
        Check.due("18: the force of then", t.limits(999, 999), 0);
        Check.due("18: and of then", t.limits(999, 999), 999);
    }

    private static void forces() {
        BendTable t = FaceAndFlatTest.shop(20, 0, 100, 60, '-');
        t.face(0, 0, 'e', 0, 60, 20, 'u');
        t.face(0, 0, 'n', 1, 99, 20, 'h');
        Check.due("19: 24000 by 8000", t.force(0, 1), 3);
        Check.due("19: 39600 by 8000, cut", t.force(0, 2), 4);
        t.tools(5, 20, 1, 60);
        Check.due("19: with a die of 1", t.force(0, 2), 39);
        Check.noPlace("19: no bend 0", () -> t.force(0, 0));
        Check.noPlace("19: no bend 3", () -> t.force(0, 3));
        Check.noPlace("19: bend below 0", () -> t.force(0, -1));
        Check.noPlace("19: no part", () -> t.force(1, 1));
    }

    private static void punch() {
        BendTable t = shop(100, 60);
        t.face(0, 0, 'e', 0, 60, 20, 'u');
        Check.due("20: as high as the clear height", t.strikes(0, 0, 1), '-');
        t.tools(5, 19, 8, 60);
        Check.due("20: higher, though it is that which is bent", t.strikes(0, 0, 1), 'p');
        // A wall at the other end: near by half the width of the punch or not.
        for (int punch = 39; punch <= 42; punch++) {
            BendTable u = shop(41, 60);
            u.face(0, 0, 'w', 0, 60, 30, 'u');
            u.face(0, 0, 'e', 0, 60, 5, 'u');
            u.tools(punch, 20, 8, 60);
            Check.due("20: a wall at 41, the punch of " + punch, u.strikes(0, 2, 2), punch > 41 ? 'p' : '-');
            Check.due("20: no wall yet", u.strikes(0, 0, 2), '-');
        }
        // Beside the ends of the bend, nothing is struck.
        for (int distance = 29; distance <= 31; distance++) {
            BendTable v = shop(10, 60);
            v.face(0, 0, 'w', 0, 30, 30, 'u');
            v.face(0, 0, 'e', distance, 60 - distance, 5, 'u');
            v.tools(60, 20, 1, 60);
            Check.due("20: between the ends from " + distance, v.strikes(0, 2, 2), distance < 30 ? 'p' : '-');
        }
        BendTable hem = shop(40, 40);
        hem.face(0, 0, 'e', 0, 40, 10, 'h');
        Check.due("20: a hem", hem.strikes(0, 0, 1), '-');
        hem.tools(5, 0, 8, 60);
        Check.due("20: a hem is 1 high", hem.strikes(0, 0, 1), 'p');
    }

    private static void dieAndBed() {
        // A wall downwards, 20 behind the line of another bend.
        for (int die = 20; die <= 21; die++) {
            BendTable t = shop(20, 60);
            t.face(0, 0, 'w', 0, 60, 10, 'd');
            t.face(0, 0, 'e', 0, 60, 5, 'u');
            t.tools(5, 20, die, 60);
            Check.due("20: a wall down at 20, the die of " + die, t.strikes(0, 2, 2), die > 20 ? 'd' : '-');
            t.tools(5, 20, die, 9);
            Check.due("20: and the bed at 9", t.strikes(0, 2, 2), die > 20 ? 'd' : 'b');
            t.tools(5, 20, die, 10);
            Check.due("20: and the bed at 10", t.strikes(0, 2, 2), die > 20 ? 'd' : '-');
        }
        // With 'd' the part lies the other way: walls up then reach the bed.
        BendTable u = shop(100, 60);
        u.face(0, 0, 'w', 0, 60, 61, 'u');
        u.face(0, 0, 'e', 0, 60, 5, 'd');
        u.face(0, 0, 'n', 0, 100, 5, 'u');
        Check.due("20: the bed", u.strikes(0, 2, 2), 'b');
        Check.due("20: with up it stands just at the end of the bend", u.strikes(0, 2, 3), '-');
        u.tools(5, 100, 8, 60);
        Check.due("20: one down is below when up is bent", u.strikes(0, 4, 1), '-');
        u.tools(5, 60, 8, 4);
        Check.due("20: then the bed, behind the punch", u.strikes(0, 4, 1), 'p');
        u.tools(5, 61, 8, 4);
        Check.due("20: then the bed alone", u.strikes(0, 4, 1), 'b');
    }

    private static void strikesMore() {
        BendTable t = FaceAndFlatTest.shop(10, 0, 40, 40, '-');
        t.face(0, 0, 'e', 0, 40, 10, 'u');
        t.face(0, 1, 'e', 0, 40, 39, 'u');
        t.face(0, 2, 'e', 0, 40, 11, 'u');
        Check.due("20: through the face 0", t.strikes(0, 6, 3), 'm');
        t.tools(5, 9, 8, 60);
        Check.due("20: the punch ahead of what meets", t.strikes(0, 6, 3), 'p');
        BendTable u = FaceAndFlatTest.shop(10, 0, 40, 40, '-');
        u.face(0, 0, 'e', 0, 40, 10, 'h');
        u.face(0, 0, 'w', 0, 40, 31, 'h');
        Check.due("20: meets behind it", u.strikes(0, 2, 2), 'm');
        Check.due("20: meets not alone", u.strikes(0, 0, 2), '-');
        u.face(0, 0, 'n', 0, 40, 5, 'u');
        Check.due("20: meets ahead of it", u.strikes(0, 6, 3), 'm');
        BendTable v = FaceAndFlatTest.shop(20, 0, 100, 60, '-');
        v.face(0, 0, 'e', 0, 60, 10, 'u');
        v.limits(60, 3);
        Check.due("20: as long and strong as can be", v.strikes(0, 0, 1), '-');
        v.limits(60, 2);
        Check.due("20: force", v.strikes(0, 0, 1), 'f');
        v.limits(59, 2);
        Check.due("20: length ahead of force", v.strikes(0, 0, 1), 'l');
        v.tools(5, 9, 8, 60);
        Check.due("20: the punch ahead of length", v.strikes(0, 0, 1), 'p');
    }

    private static void strikesRefuses() {
        BendTable t = shop(50, 30);
        t.face(0, 0, 'e', 0, 30, 10, 'u');
        t.face(0, 0, 'w', 0, 30, 10, 'u');
        Check.noPlace("20: no part", () -> t.strikes(1, 0, 1));
        Check.noPlace("20: no bend 0", () -> t.strikes(0, 0, 0));
        Check.noPlace("20: no bend 3, another one among them", () -> t.strikes(0, 1, 3));
        Check.noPlace("20: bend below 0", () -> t.strikes(0, 0, -1));
        Check.badArgument("20: another one, and it is made", () -> t.strikes(0, 3, 1));
        Check.badArgument("20: bend 3 among them", () -> t.strikes(0, 8, 1));
        Check.notNow("20: it is made", () -> t.strikes(0, 2, 1));
        Check.notNow("20: it is made with others", () -> t.strikes(0, 6, 1));
    }

    private static void orders() {
        BendTable t = shop(50, 30);
        Check.due("23: without bends, one", t.orders(0), 1);
        Check.due("21: without bends, nothing", t.cost(0), 0);
        Check.nothing("22: without bends, no place", () -> t.bendAt(0, 0));
        t.face(0, 0, 'e', 0, 30, 10, 'u');
        t.face(0, 0, 'n', 0, 50, 10, 'u');
        t.face(0, 0, 'w', 0, 30, 10, 'u');
        t.face(0, 0, 's', 0, 50, 10, 'u');
        Check.due("23: a tray in any order", t.orders(0), 24);
        Check.due("21: turned about once", t.cost(0), 1);
        int[] want = {1, 3, 2, 4};
        for (int i = 0; i < 4; i++) {
            Check.due("22: place " + i, t.bendAt(0, i), want[i]);
        }
        Check.nothing("22: no place 4", () -> t.bendAt(0, 4));
        Check.nothing("22: place below 0", () -> t.bendAt(0, -1));
        Check.noPlace("21: no part", () -> t.cost(1));
        Check.noPlace("22: no part", () -> t.bendAt(1, 9));
        Check.noPlace("23: no part", () -> t.orders(-1));
    }

    private static void turns() {
        BendTable t = shop(50, 30);
        t.face(0, 0, 'e', 0, 30, 10, 'u');
        t.face(0, 0, 'n', 0, 50, 10, 'd');
        Check.due("21: over and about", t.cost(0), 4);
        BendTable u = shop(50, 30);
        u.face(0, 0, 'e', 0, 30, 10, 'd');
        u.face(0, 0, 'w', 0, 10, 10, 'h');
        u.face(0, 0, 'n', 0, 50, 10, 'd');
        // The hem first, over to 1, about to 3; or these two, and the hem at last.
        Check.due("21: of three", u.cost(0), 4);
        Check.due("22: starts with", u.bendAt(0, 0), 2);
        Check.due("22: goes on with", u.bendAt(0, 1), 1);
        // A chain: the second bend's face stands when the first one is made, which is another direction above.
        BendTable v = shop(50, 30);
        v.face(0, 0, 'e', 0, 30, 10, 'u');
        v.face(0, 1, 'e', 0, 30, 4, 'u');
        Check.due("23: a channel's edges", v.orders(0), 2);
        Check.due("21: the outer one first costs nothing", v.cost(0), 0);
        Check.due("22: the outer one first", v.bendAt(0, 0), 2);
    }

    private static void noOrder() {
        BendTable t = shop(50, 30);
        t.face(0, 0, 'e', 0, 30, 21, 'u');
        Check.due("23: none", t.orders(0), 0);
        Check.nothing("21: none", () -> t.cost(0));
        Check.nothing("22: none", () -> t.bendAt(0, 0));
        Check.nothing("28: none", () -> t.pressTime(0));
        Check.notNow("33: none", () -> t.line(0, 1, 0));
        Check.due("46: sound without an order", t.isSound());
        // Only the order with the inner wall first keeps clear of the punch.
        BendTable u = shop(30, 30);
        u.face(0, 0, 'e', 0, 30, 15, 'u');
        u.face(0, 1, 'e', 0, 30, 10, 'u');
        Check.due("23: the outer one first alone is struck", u.strikes(0, 0, 1), 'p');
        Check.due("23: one of two", u.orders(0), 1);
        Check.due("22: it starts with 2", u.bendAt(0, 0), 2);
    }

    private static void staleOrders() {
        BendTable t = shop(50, 30);
        t.face(0, 0, 'e', 0, 30, 21, 'u');
        Check.due("23: none at first", t.orders(0), 0);
        t.tools(5, 21, 8, 60);
        Check.due("23: one with another punch", t.orders(0), 1);
        t.limits(29, 200);
        Check.due("23: none with another limit", t.orders(0), 0);
        t.limits(30, 200);
        Check.due("23: one again", t.orders(0), 1);
        t.face(0, 0, 'w', 0, 30, 10, 'u');
        Check.due("23: two with another face", t.orders(0), 2);
    }
}
