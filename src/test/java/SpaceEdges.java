/** Promises 15 and 16 at their edges: folded parts in space. */
final class SpaceEdges {
    private SpaceEdges() {
    }

    static void run() {
        spaceNumbers();
        spaceSigns();
        spaceBends();
        metBends();
        singleFace();
        stripsLeftOut();
        farOut();
        endsInCommon();
        placeAtEnd();
        placeAtHeight();
        sidewaysInCommon();
        samePlace();
        hangingAside();
        allFacesLookedAt();
    }

    private static void spaceNumbers() {
        Edge.numbers("15: part", 0, 3, Shops.BUSY, (t, n) -> t.spaceAt(n, 0, 0, 'x', true));
        Edge.numbers("15: part of none", 0, -1, Shops.EMPTY, (t, n) -> t.spaceAt(n, 0, 0, 'x', true));
        Edge.numbers("15: face", 0, 3, Shops.BUSY, (t, n) -> t.spaceAt(0, 0, n, 'x', true));
        Edge.numbers("15: face of 8", 0, 7, Shops.FULL, (t, n) -> t.spaceAt(0, 254, n, 'z', true));
        Edge.numbers("16: part", 0, 3, Shops.BUSY, (t, n) -> t.isMet(n, 0));
        Edge.numbers("16: part of none", 0, -1, Shops.EMPTY, (t, n) -> t.isMet(n, 0));
    }

    private static void spaceSigns() {
        Edge.signs("15: direction", "xyz", Shops.BUSY, (t, c) -> t.spaceAt(0, 0, 0, c, true));
        Edge.noPlace("15: no part ahead of no direction", Shops.BUSY, t -> t.spaceAt(4, 0, 0, 'w', true));
        Edge.noPlace("15: no face ahead of no direction", Shops.BUSY, t -> t.spaceAt(0, 0, 4, 'w', true));
        Edge.noPlace("15: no face ahead of another bend", Shops.BUSY, t -> t.spaceAt(0, 1, 4, 'x', true));
        Edge.badArgument("15: no direction, and another bend", Shops.BUSY, t -> t.spaceAt(0, 1, 0, 'w', true));
    }

    /** Part 0 of a busy shop has the bends 1 to 3, part 0 of a full one 1 to 7: all other bits are other bends. */
    private static void spaceBends() {
        for (int bits = 0; bits < 16; bits += 2) {
            int bends = bits;
            Edge.answers("15: bends " + bends, 0, Shops.BUSY, t -> t.spaceAt(0, bends, 0, 'x', false));
        }
        Edge.answers("15: all of 7", 0, Shops.FULL, t -> t.spaceAt(0, 254, 0, 'x', false));
        for (int bit = 0; bit < 32; bit++) {
            int bends = 1 << bit;
            if (bit < 1 || bit > 3) {
                Edge.badArgument("15: no bend " + bit, Shops.BUSY, t -> t.spaceAt(0, bends, 0, 'x', true));
            }
            if (bit < 1 || bit > 7) {
                Edge.answers("15: no bend " + bit + " of 7", IllegalArgumentException.class, Shops.FULL,
                        t -> t.spaceAt(0, bends | 254, 0, 'x', true));
            }
        }
        Edge.badArgument("15: no bend 0 with all others", Shops.BUSY, t -> t.spaceAt(0, 15, 0, 'x', true));
        Edge.badArgument("15: all bits", Shops.BUSY, t -> t.spaceAt(0, -1, 0, 'x', true));
    }

    private static void metBends() {
        for (int bits = 0; bits < 16; bits += 2) {
            int bends = bits;
            Edge.answers("16: bends " + bends, false, Shops.BUSY, t -> t.isMet(0, bends));
        }
        Edge.answers("16: all of 7", false, Shops.FULL, t -> t.isMet(0, 254));
        for (int bit = 0; bit < 32; bit++) {
            int bends = 1 << bit;
            if (bit < 1 || bit > 3) {
                Edge.badArgument("16: no bend " + bit, Shops.BUSY, t -> t.isMet(0, bends));
            }
            if (bit < 1 || bit > 7) {
                Edge.answers("16: no bend " + bit + " of 7", IllegalArgumentException.class, Shops.FULL,
                        t -> t.isMet(0, bends | 254));
            }
        }
        Edge.noPlace("16: no part ahead of another bend", Shops.BUSY, t -> t.isMet(4, 1));
        Edge.badArgument("16: no bend 0 with all others", Shops.BUSY, t -> t.isMet(0, 15));
        Edge.badArgument("16: all bits", Shops.BUSY, t -> t.isMet(0, -1));
    }

    private static void box(String name, BendTable t, int bends, int face, int... ends) {
        for (int i = 0; i < 6; i++) {
            char direction = "xyz".charAt(i / 2);
            boolean isGreater = i % 2 == 1;
            Check.due("15: " + name + ", " + direction + (isGreater ? " at most" : " at least"),
                    t.spaceAt(0, bends, face, direction, isGreater), ends[i]);
        }
    }

    private static void singleFace() {
        BendTable t = Shops.of(10, 20, 4, 300, '-');
        box("a face alone", t, 0, 0, 0, 4, 0, 300, 0, 0);
        Check.due("16: a face alone", t.isMet(0, 0), false);
        Edge.answers("15: no bend to be made", IllegalArgumentException.class, s -> {
            s.gauge(10, 20);
            s.part(0, 4, 300, '-');
        }, s -> s.spaceAt(0, 2, 0, 'x', true));
    }

    private static void stripsLeftOut() {
        for (int addition : new int[] {0, 20}) {
            BendTable t = Shops.of(60, addition, 50, 30, '-');
            t.face(0, 0, 'e', 3, 20, 7, 'u');
            t.face(0, 0, 'w', 4, 20, 8, 'd');
            t.face(0, 0, 'n', 5, 20, 9, 'h');
            t.face(0, 0, 's', 6, 20, 1, 'h');
            box("not made at e, " + addition, t, 0, 1, 50, 57, 3, 23, 0, 0);
            box("not made at w, " + addition, t, 0, 2, -8, 0, 4, 24, 0, 0);
            box("not made at n, " + addition, t, 0, 3, 5, 25, 30, 39, 0, 0);
            box("not made at s, " + addition, t, 0, 4, 6, 26, -1, 0, 0, 0);
            box("up, " + addition, t, 30, 1, 50, 50, 3, 23, 0, 7);
            box("down, " + addition, t, 30, 2, 0, 0, 4, 24, -8, 0);
            box("a hem at n, " + addition, t, 30, 3, 5, 25, 21, 30, 1, 1);
            box("a hem at s, " + addition, t, 30, 4, 6, 26, 0, 1, 1, 1);
        }
    }

    private static void farOut() {
        BendTable t = Shops.of(10, 20, 300, 300, '-');
        for (int i = 0; i < 7; i++) {
            t.face(0, i, 'w', 0, 300, 300, i % 2 == 0 ? 'd' : 'u');
        }
        box("the last of 8", t, 0, 7, -2100, -1800, 0, 300, 0, 0);
        box("the last of 8, by steps down", t, 254, 7, -900, -900, 0, 300, -1200, -900);
        box("the last but one, by steps down", t, 254, 6, -900, -600, 0, 300, -900, -900);
        box("the first bend alone", t, 2, 7, 0, 0, 0, 300, -2100, -1800);
    }

    private static void met(String name, BendTable t, int bends, boolean want) {
        Check.due("16: " + name, t.isMet(0, bends), want);
    }

    private static void endsInCommon() {
        // Two hems from two sides of a face of 40 end at the same place, or lie on one another by 1.
        String[] sides = {"ew", "we", "ns", "sn"};
        for (String two : sides) {
            for (int depth = 29; depth <= 31; depth++) {
                BendTable t = Shops.of(10, 2, 40, 40, '-');
                t.face(0, 0, two.charAt(0), 0, 40, 10, 'h');
                t.face(0, 0, two.charAt(1), 0, 40, depth, 'h');
                met("hems at " + two + ", 10 and " + depth, t, 6, depth > 30);
                met("one hem at " + two + " only", t, 2, false);
            }
        }
    }

    private static void placeAtEnd() {
        // A wall at 40, and a hem that comes up to it, or goes on by 1.
        for (int depth = 39; depth <= 41; depth++) {
            BendTable t = Shops.of(10, 2, 40, 40, '-');
            t.face(0, 0, 'e', 0, 40, 10, 'u');
            t.face(0, 0, 'w', 0, 40, depth, 'h');
            met("a wall at 40, a hem of " + depth, t, 6, depth > 40);
        }
        // The hem at s goes through the wall at n in the same way.
        for (int depth = 40; depth <= 41; depth++) {
            BendTable t = Shops.of(10, 2, 40, 40, '-');
            t.face(0, 0, 'n', 0, 40, 10, 'u');
            t.face(0, 0, 's', 0, 40, depth, 'h');
            met("a wall at n, a hem of " + depth, t, 6, depth > 40);
        }
    }

    private static void placeAtHeight() {
        // A hem lies at the height 1: a wall of 1 just ends there.
        for (int height = 1; height <= 2; height++) {
            BendTable t = Shops.of(10, 2, 40, 40, '-');
            t.face(0, 0, 'e', 0, 40, height, 'u');
            t.face(0, 0, 'w', 0, 40, 50, 'h');
            met("a hem over a wall of " + height, t, 6, height > 1);
        }
        // A wall that starts at the face 0 does not meet what lies at its height.
        BendTable t = Shops.of(10, 2, 40, 40, '-');
        t.face(0, 0, 'n', 0, 40, 10, 'u');
        t.face(0, 0, 'w', 0, 40, 10, 'u');
        met("walls with an edge in common", t, 6, false);
        t.face(0, 2, 'n', 0, 10, 10, 'u');
        met("at the end of one that is not made", t, 4 + 8, false);
        met("on a wall", t, 2 + 4 + 8, true);
    }

    private static void sidewaysInCommon() {
        // The wall at e stands from 0 to 10, the hem from w comes from `from` on.
        for (int from = 9; from <= 10; from++) {
            BendTable t = Shops.of(10, 2, 40, 40, '-');
            t.face(0, 0, 'e', 0, 10, 10, 'u');
            t.face(0, 0, 'w', from, 20, 50, 'h');
            met("beside a wall up to 10, a hem from " + from, t, 6, from < 10);
        }
        for (int up = 10; up <= 11; up++) {
            BendTable t = Shops.of(10, 2, 40, 40, '-');
            t.face(0, 0, 'e', 10, 10, 10, 'u');
            t.face(0, 0, 'w', 0, up, 50, 'h');
            met("beside a wall from 10, a hem up to " + up, t, 6, up > 10);
        }
    }

    private static void samePlace() {
        // A hem's hem comes down into the plane of the face 0; unbent, it lies 1 above.
        BendTable t = Shops.of(10, 2, 40, 40, '-');
        t.face(0, 0, 'w', 0, 40, 30, 'h');
        t.face(0, 1, 'w', 0, 40, 7, 'h');
        met("at the same height", t, 6, true);
        met("1 above", t, 2, false);
        met("beside, at the same height", t, 0, false);
        // Two walls at the same place, x and y alike, one above the other one.
        for (int back = 40; back <= 41; back++) {
            BendTable u = Shops.of(10, 2, 40, 40, '-');
            u.face(0, 0, 'e', 0, 40, 10, 'u');
            u.face(0, 1, 'e', 0, 40, back, 'u');
            u.face(0, 2, 'e', 0, 40, 10, 'u');
            u.face(0, 0, 'w', 0, 40, 1, 'u');
            met("down on a wall at 0, from 40 - " + back, u, 30, back == 40);
        }
    }

    private static void hangingAside() {
        // A face and the one at which it hangs never meet, whichever bend there is.
        for (char bend : "udh".toCharArray()) {
            BendTable t = Shops.of(10, 0, 40, 40, '-');
            t.face(0, 0, 'e', 0, 40, 300, bend);
            met("two faces, bent " + bend, t, 2, false);
            met("two faces, not bent " + bend, t, 0, false);
        }
    }

    /** Eight faces, of which only the last one meets another one. */
    private static void allFacesLookedAt() {
        for (int depth = 10; depth <= 11; depth++) {
            BendTable t = Shops.of(10, 1, 100, 40, '-');
            for (int i = 0; i < 5; i++) {
                t.face(0, 0, 'n', 20 * i, 10, 5, 'u');
            }
            t.face(0, 0, 'e', 0, 40, 90, 'h');
            t.face(0, 0, 'w', 0, 40, depth, 'h');
            met("the faces 6 and 7, by " + (depth - 10), t, 64 + 128, depth > 10);
            met("the face 7 alone", t, 128, false);
        }
    }
}
