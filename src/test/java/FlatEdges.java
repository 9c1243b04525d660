/** Promises 7 to 14 at their edges: the flat and its faults. */
final class FlatEdges {
    private FlatEdges() {
    }

    static void run() {
        flatAt();
        flatPlaces();
        partNumbers();
        wholeFlat();
        staircases();
        area();
        outline();
        reliefs();
        overlapOfFaces();
        overlapOfStrips();
        holesAtBends();
        holesAtOwnBend();
        holesBesideBends();
        meeting();
        faultKinds();
    }

    // ---- promise 7

    private static void flatAt() {
        Edge.numbers("7: part", 0, 3, Shops.BUSY, (t, n) -> t.flatAt(n, 0, 'x'));
        Edge.numbers("7: part of none", 0, -1, Shops.EMPTY, (t, n) -> t.flatAt(n, 0, 'x'));
        Edge.numbers("7: face", 0, 3, Shops.BUSY, (t, n) -> t.flatAt(0, n, 'y'));
        Edge.numbers("7: face of 8", 0, 7, Shops.FULL, (t, n) -> t.flatAt(0, n, 'w'));
        Edge.signs("7: what", "xywh", Shops.BUSY, (t, c) -> t.flatAt(0, 1, c));
        Edge.noPlace("7: no part ahead of no such thing", Shops.BUSY, t -> t.flatAt(4, 0, 'z'));
        Edge.noPlace("7: no face ahead of no such thing", Shops.BUSY, t -> t.flatAt(0, 4, 'z'));
    }

    private static void at(String name, BendTable t, int face, int x, int y, int w, int h) {
        Check.due("7: x, " + name, t.flatAt(0, face, 'x'), x);
        Check.due("7: y, " + name, t.flatAt(0, face, 'y'), y);
        Check.due("7: width, " + name, t.flatAt(0, face, 'w'), w);
        Check.due("7: height, " + name, t.flatAt(0, face, 'h'), h);
    }

    private static void flatPlaces() {
        for (int addition : new int[] {0, 20}) {
            BendTable t = Shops.of(10, addition, 50, 30, '-');
            t.face(0, 0, 'e', 29, 1, 300, 'u');
            t.face(0, 0, 'w', 0, 1, 300, 'd');
            t.face(0, 0, 'n', 49, 1, 300, 'h');
            t.face(0, 0, 's', 0, 1, 300, 'u');
            t.face(0, 1, 'n', 299, 1, 1, 'u');
            t.face(0, 2, 's', 0, 300, 1, 'u');
            at("face 0", t, 0, 0, 0, 50, 30);
            at("at e, beyond the strip", t, 1, 50 + addition, 29, 300, 1);
            at("at w, beyond the strip", t, 2, -300 - addition, 0, 300, 1);
            at("at n, beyond the strip", t, 3, 49, 30 + addition, 1, 300);
            at("at s, beyond the strip", t, 4, 0, -300 - addition, 1, 300);
            at("at n of one at e", t, 5, 50 + addition + 299, 30 + addition, 1, 1);
            at("at s of one at w", t, 6, -300 - addition, -addition - 1, 300, 1);
        }
    }

    // ---- promises 8 to 13

    private static void partNumbers() {
        Edge.numbers("8: part", 0, 3, Shops.BUSY, (t, n) -> t.width(n));
        Edge.numbers("9: part", 0, 3, Shops.BUSY, (t, n) -> t.height(n));
        Edge.numbers("10: part", 0, 3, Shops.BUSY, (t, n) -> t.area(n));
        Edge.numbers("11: part", 0, 3, Shops.BUSY, (t, n) -> t.outline(n));
        Edge.numbers("12: part", 0, 3, Shops.BUSY, (t, n) -> t.reliefs(n));
        Edge.numbers("13: part", 0, 3, Shops.BUSY, (t, n) -> t.faults(n));
        Edge.numbers("8: part of none", 0, -1, Shops.EMPTY, (t, n) -> t.width(n));
        Edge.numbers("9: part of none", 0, -1, Shops.EMPTY, (t, n) -> t.height(n));
        Edge.numbers("10: part of none", 0, -1, Shops.EMPTY, (t, n) -> t.area(n));
        Edge.numbers("11: part of none", 0, -1, Shops.EMPTY, (t, n) -> t.outline(n));
        Edge.numbers("12: part of none", 0, -1, Shops.EMPTY, (t, n) -> t.reliefs(n));
        Edge.numbers("13: part of none", 0, -1, Shops.EMPTY, (t, n) -> t.faults(n));
    }

    private static void whole(String name, BendTable t, int width, int height, int area, int outline) {
        Check.due("8: " + name, t.width(0), width);
        Check.due("9: " + name, t.height(0), height);
        Check.due("10: " + name, t.area(0), area);
        Check.due("11: " + name, t.outline(0), outline);
    }

    private static void wholeFlat() {
        whole("the least part", Shops.of(10, 20, 4, 4, '-'), 4, 4, 16, 16);
        whole("the largest face", Shops.of(10, 20, 300, 300, '-'), 300, 300, 90000, 1200);
        BendTable chain = Shops.of(10, 20, 300, 300, '-');
        for (int i = 0; i < 7; i++) {
            chain.face(0, i, 'w', 0, 300, 300, 'u');
        }
        whole("8 of the largest faces", chain, 8 * 300 + 7 * 20, 300, 2540 * 300, 2 * 2540 + 600);
        BendTable tower = Shops.of(10, 0, 300, 300, '-');
        for (int i = 0; i < 7; i++) {
            tower.face(0, i, 's', 0, 300, 300, 'd');
        }
        whole("8 of the largest faces, without strips", tower, 300, 2400, 2400 * 300, 2 * 2400 + 600);
        // To w and s of the face 0 the flat goes below 0.
        BendTable corner = Shops.of(10, 3, 10, 12, '-');
        corner.face(0, 0, 'w', 0, 12, 5, 'u');
        corner.face(0, 0, 's', 0, 10, 6, 'u');
        whole("below 0", corner, 18, 21, 120 + 36 + 60 + 30 + 60, 78);
    }

    /** Chains of 8, each face shorter than the one at which it hangs: no two of their edges lie on one line. */
    private static void staircases() {
        for (char side : "nesw".toCharArray()) {
            BendTable t = Shops.of(10, 3, 100, 100, '-');
            int area = 100 * 100;
            for (int i = 1; i < 8; i++) {
                t.face(0, i - 1, side, 3, 100 - 10 * i, 10 + i, 'u');
                area += (100 - 10 * i) * (13 + i);
            }
            // 7 strips of 3, and depths of 11 to 17.
            int far = 100 + 21 + 98;
            boolean isUpright = side == 'e' || side == 'w';
            whole("a staircase to " + side, t, isUpright ? far : 100, isUpright ? 100 : far, area, 2 * (far + 100));
            Check.due("12: a staircase to " + side, t.reliefs(0), 14);
            Check.due("14: a staircase to " + side, t.hasFault(0, 'o'), false);
        }
    }

    private static void area() {
        BendTable t = Shops.of(10, 1, 300, 300, '-');
        for (int i = 1; i <= 8; i++) {
            t.hole(0, 0, 1, 1, 298, 298);
            // Each hole is taken off, also where others are: the flat is less than nothing then.
            Check.due("10: " + i + " holes, each on the others", t.area(0), 90000 - i * 298 * 298);
        }
        Check.due("11: holes aside", t.outline(0), 1200);
        Check.due("8: holes aside", t.width(0), 300);
        BendTable u = Shops.of(10, 2, 10, 10, '-');
        u.face(0, 0, 'e', 4, 3, 5, 'u');
        Check.due("10: the strip too", u.area(0), 100 + 2 * 3 + 15);
        u.hole(0, 1, 2, 1, 1, 1);
        Check.due("10: a hole in a face that hangs", u.area(0), 120);
    }

    private static void outline() {
        // The last face closes an empty place of 3 by 2, up to the face at n, and by one more over it.
        for (int depth = 1; depth <= 2; depth++) {
            BendTable t = Shops.of(10, 2, 20, 20, '-');
            t.face(0, 0, 'n', 0, 19, 10, 'u');
            t.face(0, 0, 'e', 0, 20, 12, 'u');
            t.face(0, 2, 'n', 0, 12, 10, 'u');
            Check.due("11: open at a side", t.outline(0), 132 + 24);
            t.face(0, 3, 'w', 0, 10, depth, 'd');
            Check.due("14: over by " + (depth - 1), t.hasFault(0, 'o'), depth > 1);
            whole("what lies twice counts once, over by " + (depth - 1), t, 34, 32, 34 * 32 - 6, 132 + 10);
        }
        // A slit, which is closed at last.
        BendTable ring = Shops.of(10, 0, 4, 4, '-');
        ring.face(0, 0, 'e', 0, 4, 1, 'u');
        ring.face(0, 1, 'n', 0, 1, 1, 'u');
        ring.face(0, 0, 'n', 0, 3, 1, 'u');
        whole("closed up", ring, 5, 5, 16 + 4 + 1 + 3, 5 * 4 + 2);
        ring.face(0, 2, 'n', 0, 1, 1, 'u');
        ring.face(0, 3, 'n', 0, 3, 1, 'u');
        whole("a slit from above", ring, 5, 6, 28, 22 + 4);
        ring.face(0, 4, 'w', 0, 1, 1, 'u');
        whole("an empty place of 1 by 1 within", ring, 5, 6, 29, 22 + 4);
    }

    // ---- promise 12

    private static void reliefs() {
        for (char side : "nesw".toCharArray()) {
            int whole = side == 'n' || side == 's' ? 50 : 30;
            Check.due("12: end to end, " + side, reliefsAt(side, 0, whole), 0);
            Check.due("12: from 1 on, " + side, reliefsAt(side, 1, whole - 1), 1);
            Check.due("12: up to the last but one, " + side, reliefsAt(side, 0, whole - 1), 1);
            Check.due("12: between, " + side, reliefsAt(side, 1, whole - 2), 2);
        }
        BendTable t = Shops.of(10, 2, 50, 30, '-');
        Check.due("12: no bend", t.reliefs(0), 0);
        t.face(0, 0, 'e', 0, 15, 10, 'u');
        t.face(0, 0, 'e', 15, 15, 10, 'u');
        Check.due("12: where another bend goes on is no end of the side", t.reliefs(0), 2);
        t.face(0, 1, 'n', 0, 10, 5, 'u');
        Check.due("12: end to end of one that hangs", t.reliefs(0), 2);
        t.face(0, 3, 'e', 0, 4, 5, 'u');
        Check.due("12: not of one that hangs", t.reliefs(0), 3);
        BendTable most = Shops.of(10, 2, 300, 30, '-');
        for (int i = 0; i < 7; i++) {
            most.face(0, 0, 'n', 1 + 2 * i, 1, 1, 'u');
        }
        Check.due("12: two for each of 7", most.reliefs(0), 14);
    }

    private static int reliefsAt(char side, int distance, int length) {
        BendTable t = Shops.of(10, 2, 50, 30, '-');
        t.face(0, 0, side, distance, length, 10, 'd');
        return t.reliefs(0);
    }

    // ---- promise 14

    private static void overlapOfFaces() {
        // Two faces at e, from 0 to 10 and from 10 + gap on; one at n of the first, as deep as the gap, or more.
        for (int depth = 3; depth <= 5; depth++) {
            BendTable t = Shops.of(10, 0, 20, 30, '-');
            t.face(0, 0, 'e', 0, 10, 10, 'u');
            t.face(0, 0, 'e', 14, 10, 10, 'u');
            t.face(0, 1, 'n', 0, 10, depth, 'u');
            Check.due("14: up to another face by " + depth, t.hasFault(0, 'o'), depth > 4);
            Check.due("13: counted, " + depth, t.faults(0), depth > 4 ? 1 : 0);
        }
        // Faces that meet at a corner alone do not overlap.
        BendTable t = Shops.of(10, 0, 20, 20, '-');
        t.face(0, 0, 'e', 0, 20, 10, 'u');
        t.face(0, 0, 'n', 0, 20, 10, 'u');
        Check.due("14: a corner in common", t.hasFault(0, 'o'), false);
        t.face(0, 1, 'n', 0, 10, 5, 'u');
        Check.due("14: a side in common", t.hasFault(0, 'o'), false);
        t.face(0, 2, 'e', 4, 6, 1, 'u');
        Check.due("14: over a corner by 1", t.hasFault(0, 'o'));
    }

    private static void overlapOfStrips() {
        // The strip of the face at n reaches from 10 to 13, that face from there to 14; the other one is 1 high.
        for (int from = 11; from <= 14; from++) {
            BendTable t = Shops.of(10, 3, 50, 30, '-');
            t.face(0, 0, 'e', 0, 10, 10, 'u');
            t.face(0, 0, 'e', from, 1, 10, 'u');
            t.face(0, 1, 'n', 0, 10, 1, 'u');
            Check.due("14: a strip and a face at " + from, t.hasFault(0, 'o'), from < 14);
        }
        // The same without a strip: only the face from 10 to 11 is there.
        for (int from = 10; from <= 11; from++) {
            BendTable t = Shops.of(10, 0, 50, 30, '-');
            t.face(0, 0, 'e', 0, 10, 10, 'u');
            t.face(0, 0, 'e', from, 1, 10, 'u');
            t.face(0, 1, 'n', 0, 10, 1, 'u');
            Check.due("14: without a strip, a face at " + from, t.hasFault(0, 'o'), from < 11);
        }
        // The strip of the second face at e is deeper than the first face is: it lies beside it.
        BendTable t = Shops.of(10, 20, 50, 30, '-');
        t.face(0, 0, 'e', 0, 10, 1, 'u');
        t.face(0, 0, 'e', 10, 20, 1, 'u');
        Check.due("14: strips beside each other", t.hasFault(0, 'o'), false);
    }

    /** Whether a hole of 2 by 2 as near to a side is at fault, a face of a single length hanging there. */
    private static boolean isNear(int thickness, char side, int gap) {
        BendTable t = Shops.of(thickness, 2, 60, 60, '-');
        t.face(0, 0, side, 0, 1, 10, 'u');
        int x = side == 'w' ? gap : side == 'e' ? 58 - gap : 29;
        int y = side == 's' ? gap : side == 'n' ? 58 - gap : 29;
        t.hole(0, 0, x, y, 2, 2);
        Check.due("13: the same is counted", t.faults(0), t.hasFault(0, 'h') ? 1 : 0);
        return t.hasFault(0, 'h');
    }

    private static void holesAtBends() {
        for (char side : "nesw".toCharArray()) {
            // Three thicknesses of 0.5, 1, 1.1, 3.3 and 6 are 1.5, 3, 3.3, 9.9 and 18.
            int[][] edges = {{5, 1, 2}, {10, 2, 3}, {11, 3, 4}, {33, 9, 10}, {60, 17, 18}};
            for (int[] edge : edges) {
                Check.due("14: thickness " + edge[0] + ", " + side + ", near", isNear(edge[0], side, edge[1]));
                Check.due("14: thickness " + edge[0] + ", " + side + ", not nearer", isNear(edge[0], side, edge[2]),
                        false);
            }
        }
    }

    private static void holesAtOwnBend() {
        for (char side : "nesw".toCharArray()) {
            for (int gap = 2; gap <= 3; gap++) {
                BendTable t = Shops.of(10, 2, 60, 60, '-');
                t.face(0, 0, side, 20, 20, 20, 'u');
                // The face hangs by the side that is opposite to its direction; the other ends are nearer.
                int x = side == 'e' ? gap : side == 'w' ? 18 - gap : 1;
                int y = side == 'n' ? gap : side == 's' ? 18 - gap : 1;
                t.hole(0, 1, x, y, 2, 2);
                Check.due("14: at its own bend, " + side + ", " + gap, t.hasFault(0, 'h'), gap < 3);
            }
        }
    }

    private static void holesBesideBends() {
        BendTable t = Shops.of(10, 2, 60, 60, '-');
        t.hole(0, 0, 1, 1, 1, 1);
        Check.due("14: no bend at all", t.hasFault(0, 'h'), false);
        t.face(0, 0, 'e', 0, 60, 10, 'u');
        t.face(0, 0, 'n', 0, 60, 10, 'u');
        Check.due("14: bends at other sides", t.hasFault(0, 'h'), false);
        t.face(0, 1, 's', 0, 10, 10, 'u');
        Check.due("14: a bend at that side of another face", t.hasFault(0, 'h'), false);
        t.face(0, 0, 's', 59, 1, 10, 'u');
        Check.due("14: a bend anywhere at the side", t.hasFault(0, 'h'));
        BendTable u = Shops.of(10, 2, 60, 60, '-');
        u.face(0, 0, 'e', 0, 60, 10, 'u');
        u.hole(0, 1, 3, 30, 6, 2);
        Check.due("14: at the free end of a face", u.hasFault(0, 'h'), false);
        u.face(0, 1, 'e', 0, 1, 10, 'u');
        Check.due("14: at a bend at the end of a face", u.hasFault(0, 'h'));
    }

    private static void meeting() {
        // Two hems on a face of 40: with a depth of 30 they end where the other one does.
        for (int depth = 30; depth <= 31; depth++) {
            BendTable t = Shops.of(10, 2, 40, 40, '-');
            t.face(0, 0, 'e', 0, 40, 10, 'h');
            t.face(0, 0, 'w', 0, 40, depth, 'h');
            Check.due("14: hems with a depth of " + depth, t.hasFault(0, 'c'), depth > 30);
        }
        BendTable t = Shops.of(10, 2, 40, 40, '-');
        Check.due("14: a face alone meets none", t.hasFault(0, 'c'), false);
        t.face(0, 0, 'e', 0, 40, 40, 'h');
        Check.due("14: what hangs at the other one does not count", t.hasFault(0, 'c'), false);
    }

    private static void faultKinds() {
        Edge.numbers("14: part", 0, 3, Shops.BUSY, (t, n) -> t.hasFault(n, 'o'));
        Edge.numbers("14: part of none", 0, -1, Shops.EMPTY, (t, n) -> t.hasFault(n, 'o'));
        Edge.signs("14: fault", "ohc", Shops.BUSY, (t, c) -> t.hasFault(0, c));
        Edge.noPlace("14: no part ahead of no such fault", Shops.BUSY, t -> t.hasFault(4, 'q'));
        BendTable t = Shops.of(10, 0, 40, 40, '-');
        faults("none", t, false, false, false);
        t.face(0, 0, 'e', 0, 40, 10, 'h');
        t.face(0, 0, 'w', 0, 40, 31, 'h');
        faults("c", t, false, false, true);
        t.hole(0, 0, 38, 10, 1, 1);
        faults("h and c", t, false, true, true);
        t.hole(0, 0, 1, 10, 1, 1);
        faults("h twice", t, false, true, true);
        t.face(0, 0, 'n', 0, 30, 10, 'u');
        t.face(0, 3, 'e', 0, 10, 4, 'u');
        t.face(0, 4, 's', 0, 4, 11, 'u');
        faults("all three", t, true, true, true);
    }

    private static void faults(String name, BendTable t, boolean over, boolean near, boolean meets) {
        Check.due("14: o, " + name, t.hasFault(0, 'o'), over);
        Check.due("14: h, " + name, t.hasFault(0, 'h'), near);
        Check.due("14: c, " + name, t.hasFault(0, 'c'), meets);
        Check.due("13: " + name, t.faults(0), (over ? 1 : 0) + (near ? 1 : 0) + (meets ? 1 : 0));
    }
}
