/** Promises 43 to 46 at their edges, and shops as a whole: empty, full, and used for all of their calls. */
final class FigureEdges {
    private FigureEdges() {
    }

    static void run() {
        shareOfNone();
        shareEdges();
        meanAdditions();
        checksums();
        checksumWraps();
        soundness();
        soundnessOfOrders();
        emptyShop();
        fullShop();
        lastCall();
        manyRefusals();
        noCallChanges();
    }

    // ---- promise 43

    private static void shareOfNone() {
        Edge.undefined("43: no lines", Shops.EMPTY, t -> t.nestedShare());
        Edge.undefined("43: parts, and no lines", s -> {
            s.gauge(10, 1);
            s.part(0, 10, 10, '-');
            s.stock(0, 10, 10, 'x', 1);
        }, t -> t.nestedShare());
    }

    private static void shareEdges() {
        BendTable t = Shops.of(10, 0, 10, 10, '-');
        t.stock(0, 900, 900, 'x', 20);
        t.line(0, 1, 0);
        Check.due("43: the only one is not nested", t.nestedShare(), 0f);
        t.nest(0);
        Check.due("43: the only one is nested", t.nestedShare(), 1f);
        t.line(0, 40, 0);
        Check.due("43: pieces are counted, and not lines", t.nestedShare(), 1f / 41f);
        t.line(0, 2, 0);
        t.nest(2);
        Check.due("43: divided as floats", t.nestedShare(), 3f / 43f);
        t.nest(1);
        Check.due("43: all of three", t.nestedShare(), 1f);
        // A line without a good order by now is nested all the same.
        Edge.answers("43: without a good order by now", 3f / 45f, Shops.BUSY, s -> {
            s.limits(1, 0);
            return s.nestedShare();
        });
    }

    // ---- promise 44

    private static void meanAdditions() {
        Edge.numbers("44: part", 0, 3, Shops.BUSY, (t, n) -> t.meanAddition(n));
        Edge.numbers("44: part of none", 0, -1, Shops.EMPTY, (t, n) -> t.meanAddition(n));
        Edge.undefined("44: no bends", Shops.FULL, t -> t.meanAddition(4));
        Edge.answers("44: 3 bends", 2.0, Shops.BUSY, t -> t.meanAddition(0));
        Edge.answers("44: 7 bends", 1.0, Shops.FULL, t -> t.meanAddition(0));
        for (int addition : new int[] {0, 20}) {
            BendTable t = Shops.of(10, addition, 40, 40, '-');
            t.face(0, 0, 'e', 0, 40, 10, 'h');
            Check.due("44: an addition of " + addition, t.meanAddition(0), (double) addition);
        }
    }

    // ---- promise 45

    private static void checksums() {
        Edge.answers("45: no parts", 7L, Shops.EMPTY, t -> t.checksum());
        BendTable t = Shops.of(10, 0, 4, 5, '-');
        Check.due("45: a part", t.checksum(), ((7L * 31 + 20) * 31 + 18) * 31 + 1);
        t.hole(0, 0, 1, 1, 2, 3);
        Check.due("45: a hole is taken off", t.checksum(), ((7L * 31 + 14) * 31 + 18) * 31 + 1);
        t.face(0, 0, 'e', 0, 5, 21, 'u');
        Check.due("45: no good order", t.checksum(), ((7L * 31 + 14 + 105) * 31 + 60) * 31);
        t.tools(5, 21, 8, 60);
        Check.due("45: a good order by now", t.checksum(), ((7L * 31 + 14 + 105) * 31 + 60) * 31 + 1);
        Check.due("45: gauges, tools, and stocks aside", t.gauge(20, 1) + t.tool(1, 1) + t.stock(0, 9, 9, 'x', 1), 1);
        Check.due("45: only parts", t.checksum(), ((7L * 31 + 14 + 105) * 31 + 60) * 31 + 1);
    }

    private static void checksumWraps() {
        BendTable t = new BendTable();
        t.gauge(10, 1);
        long want = 7;
        for (int part = 0; part < 8; part++) {
            t.part(0, 300, 300 - part, '-');
            for (int hole = 0; hole < part; hole++) {
                t.hole(part, 0, 1, 1, 298, 290);
            }
            // The area of the later ones is below 0, and from the fifth part on the sum wraps around.
            want = want * 31 + 300 * (300 - part) - part * 298 * 290;
            want = want * 31 + 2 * (600 - part);
            want = want * 31 + 1;
            Check.due("45: " + (part + 1) + " parts", t.checksum(), want);
        }
        Check.due("45: written out by another one", want, wrapped());
    }

    /** The same sum in numbers that don't wrap around, cut down to a long's at last. */
    private static long wrapped() {
        java.math.BigInteger sum = java.math.BigInteger.valueOf(7);
        for (int part = 0; part < 8; part++) {
            for (long next : new long[] {300L * (300 - part) - part * 86420L, 1200 - 2 * part, 1}) {
                sum = sum.multiply(java.math.BigInteger.valueOf(31)).add(java.math.BigInteger.valueOf(next));
            }
        }
        return sum.longValue();
    }

    // ---- promise 46

    private static void soundness() {
        Edge.answers("46: nothing at all", true, Shops.EMPTY, t -> t.isSound());
        Edge.answers("46: with a fault, without an order, nested and not", true, Shops.BUSY, t -> t.isSound());
        Edge.answers("46: all there may be", true, Shops.FULL, t -> t.isSound());
        Edge.answers("46: no order of any part", true, Shops.FULL, t -> t.limits(1, 0) > 0 && t.isSound());
        Edge.answers("46: all lines nested", true, Shops.FULL, t -> {
            for (int line = 0; line < 10; line++) {
                int each = line;
                Edge.answer(t, s -> s.nest(each));
            }
            return t.isSound();
        });
        // It looks at orders a second way, which must leave the first one as it was.
        Edge.answers("22: behind it", 3, Shops.FULL, t -> t.isSound() ? t.bendAt(0, 2) : -1);
        Edge.answers("21: behind it", 1, Shops.FULL, t -> t.isSound() ? t.cost(0) : -1);
        Edge.answers("23: behind it", 5040, Shops.FULL, t -> t.isSound() ? t.orders(0) : -1);
        Edge.answers("22: behind it, without an order", java.util.NoSuchElementException.class, Shops.FULL,
                t -> t.isSound() ? t.bendAt(3, 0) : -1);
    }

    private static void soundnessOfOrders() {
        // Each edge has to be bent ahead of its wall, which would be too high with it.
        BendTable t = Shops.of(10, 0, 60, 30, '-');
        t.face(0, 0, 'e', 0, 30, 15, 'u');
        t.face(0, 1, 'e', 0, 30, 10, 'u');
        t.face(0, 0, 'w', 0, 30, 15, 'u');
        t.face(0, 3, 'w', 0, 30, 10, 'd');
        Check.due("23: each edge ahead of its wall", t.orders(0), 6);
        Check.due("46: where the order counts", t.isSound());
        Check.due("21: turned over behind the edge that goes down", t.cost(0), 3);
        int[] best = {4, 2, 1, 3};
        for (int i = 0; i < 4; i++) {
            Check.due("22: the edge that goes down first, " + i, t.bendAt(0, i), best[i]);
        }
        t.limits(29, 200);
        Check.due("46: where no order is good", t.isSound());
    }

    // ---- shops as a whole

    /** In an empty shop each call with a number of something is refused: there is none of anything. */
    private static void emptyShop() {
        Edge.Use[] calls = {t -> t.part(0, 10, 10, '-'), t -> t.face(0, 0, 'e', 0, 1, 1, 'u'),
            t -> t.hole(0, 0, 1, 1, 1, 1), t -> t.faces(0), t -> t.flatAt(0, 0, 'x'), t -> t.width(0), t -> t.height(0),
            t -> t.area(0), t -> t.outline(0), t -> t.reliefs(0), t -> t.faults(0), t -> t.hasFault(0, 'o'),
            t -> t.spaceAt(0, 0, 0, 'x', true), t -> t.isMet(0, 0), t -> t.force(0, 1), t -> t.strikes(0, 0, 1),
            t -> t.cost(0), t -> t.bendAt(0, 0), t -> t.orders(0), t -> t.toolOf(0, 0), t -> t.hits(0),
            t -> t.flatTime(0), t -> t.pressTime(0), t -> t.stock(0, 10, 10, 'x', 1), t -> t.sheets(0),
            t -> t.size(0, true), t -> t.line(0, 1, 0), t -> t.fits(0, 0), t -> t.nest(0), t -> t.took(0),
            t -> t.waste(0), t -> t.measure(0, 900), t -> t.setting(0), t -> t.ends(0), t -> t.late(0),
            t -> t.price(0), t -> t.meanAddition(0)};
        for (int i = 0; i < calls.length; i++) {
            Edge.noPlace("an empty shop, call " + i, Shops.EMPTY, calls[i]);
        }
        // One of each is enough for all of them; what is refused then is refused for another reason.
        for (int i = 0; i < calls.length; i++) {
            Edge.Use call = calls[i];
            Object got = Edge.answer(Edge.built(FigureEdges::one), call);
            Check.due("a shop with one of each, call " + i, got != (Object) IndexOutOfBoundsException.class);
        }
    }

    private static void one(BendTable t) {
        t.gauge(10, 0);
        t.part(0, 20, 20, '-');
        t.face(0, 0, 'n', 0, 20, 5, 'u');
        t.hole(0, 0, 5, 5, 2, 2);
        t.tool(1, 1);
        t.stock(0, 40, 40, 'x', 1);
        t.line(0, 1, 0);
    }

    /** In a full shop nothing more is added, and everything there is answers. */
    private static void fullShop() {
        Edge.full("2: full", Shops.FULL, t -> t.gauge(60, 20));
        Edge.full("3: full", Shops.FULL, t -> t.part(5, 300, 300, '-'));
        Edge.full("4: full", Shops.FULL, t -> t.face(0, 7, 's', 0, 1, 1, 'h'));
        Edge.full("5: full", Shops.FULL, t -> t.hole(0, 0, 98, 98, 1, 1));
        Edge.full("24: full", Shops.FULL, t -> t.tool(60, 60));
        Edge.full("29: full", Shops.FULL, t -> t.stock(5, 900, 900, 'y', 20));
        Edge.full("33: full", Shops.FULL, t -> t.line(7, 40, 99));
        BendTable t = Edge.built(Shops.FULL);
        for (int part = 0; part < 8; part++) {
            Check.due("6: part " + part + " of 8", t.faces(part), part < 2 ? 8 : part < 4 ? 2 : 1);
        }
        for (int line = 0; line < 10; line++) {
            Check.due("36: line " + line + " of 10", t.took(line) > 0, line == 0 || line == 3);
        }
        for (int gauge = 0; gauge < 6; gauge++) {
            // Of 890 to 895 the last 5 lack 7 on the average.
            Check.due("39: gauge " + gauge + " of 6", t.setting(gauge), gauge < 5 ? 900 : 907);
        }
    }

    /** An object serves 512 calls: the last one of them answers as the first one does. */
    private static void lastCall() {
        BendTable t = new BendTable();
        t.gauge(10, 1);
        Shops.tray(t, 0);
        // Up to here there were 17 calls.
        for (int call = 18; call <= 511; call++) {
            if (call % 2 == 0) {
                Check.due("18: call " + call, t.limits(99 + call % 4 / 2, 200), 200);
            } else {
                Check.due("23: call " + call, t.orders(0), call % 4 == 1 ? 0 : 5040);
            }
        }
        Check.due("21: call 512", t.cost(0), 1);
        BendTable u = new BendTable();
        for (int call = 1; call < 512; call++) {
            u.checksum();
        }
        Check.due("2: call 512 adds the first gauge", u.gauge(10, 1), 0);
    }

    /** However often a call is refused, what there is room for is not less. */
    private static void manyRefusals() {
        BendTable t = Edge.built(Shops.BUSY);
        for (int i = 0; i < 60; i++) {
            Edge.answer(t, s -> s.gauge(4, 0));
            Edge.answer(t, s -> s.part(0, 3, 3, 'x'));
            Edge.answer(t, s -> s.face(0, 0, 'n', 0, 51, 5, 'u'));
            Edge.answer(t, s -> s.hole(0, 0, 0, 0, 1, 1));
            Edge.answer(t, s -> s.tool(0, 0));
            Edge.answer(t, s -> s.stock(0, 3, 3, 'x', 1));
            Edge.answer(t, s -> s.line(2, 1, 0));
        }
        Check.due("2: the next gauge", t.gauge(10, 1), 2);
        Check.due("3: the next part", t.part(0, 10, 10, 'x'), 4);
        Check.due("4: the next face", t.face(0, 0, 'n', 0, 50, 5, 'u'), 4);
        Check.due("5: the next hole", t.hole(0, 0, 1, 1, 1, 1), 3);
        Check.due("24: the next tool", t.tool(1, 1), 2);
        Check.due("29: the next stock", t.stock(0, 10, 10, 'x', 1), 4);
        Check.due("33: the next line", t.line(4, 1, 0), 3);
    }

    /** A call that only asks changes nothing, in a busy shop and in a full one. */
    private static void noCallChanges() {
        Edge.Use[] calls = {t -> t.faces(0), t -> t.flatAt(0, 1, 'x'), t -> t.width(0), t -> t.height(0),
            t -> t.area(0), t -> t.outline(0), t -> t.reliefs(0), t -> t.faults(0), t -> t.hasFault(0, 'c'),
            t -> t.spaceAt(0, 2, 1, 'z', true), t -> t.isMet(0, 2), t -> t.force(0, 1), t -> t.strikes(0, 0, 1),
            t -> t.cost(0), t -> t.bendAt(0, 0), t -> t.orders(0), t -> t.toolOf(0, 0), t -> t.hits(0),
            t -> t.flatTime(0), t -> t.pressTime(0), t -> t.sheets(0), t -> t.size(0, true), t -> t.stocks(),
            t -> t.fits(0, 0), t -> t.took(0), t -> t.waste(0), t -> t.setting(0), t -> t.ends(0), t -> t.late(0),
            t -> t.price(0), t -> t.nestedShare(), t -> t.meanAddition(0), t -> t.checksum(), t -> t.isSound()};
        for (Edge.Build build : new Edge.Build[] {Shops.BUSY, Shops.FULL}) {
            for (int look = 0; look < Look.LOOKS; look++) {
                BendTable t = Edge.built(build);
                for (int i = 0; i < calls.length; i++) {
                    Object got = Edge.answer(t, calls[i]);
                    Check.due("asked once, " + i, !(got instanceof Class));
                    Check.due("asked twice, " + i, Edge.answer(t, calls[i]), got);
                }
                Check.due("asking changes nothing, look " + look, Look.at(t, look), Look.at(Edge.built(build), look));
            }
        }
    }
}
