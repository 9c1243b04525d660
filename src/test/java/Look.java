/**
 * All that a shop shows: two shops that show the same have heard of the same. An object serves 512 calls only, and
 * so there are several looks, of some 300 calls at most, each of them at a shop of its own. A look changes the shop.
 */
final class Look {
    static final int LOOKS = 6;

    private Look() {
    }

    static String at(BendTable t, int look) {
        StringBuilder shown = new StringBuilder();
        switch (look) {
            case 0:
                figures(t, shown);
                break;
            case 1:
                flats(t, shown);
                break;
            case 2:
                faces(t, shown);
                break;
            case 3:
                space(t, shown);
                break;
            case 4:
                press(t, shown);
                break;
            default:
                additions(t, shown);
                break;
        }
        return shown.toString();
    }

    /** Notes an answer or what is thrown, and tells whether there was an answer. */
    private static boolean note(StringBuilder shown, BendTable t, Edge.Use use) {
        Object got = Edge.answer(t, use);
        boolean isThrown = got instanceof Class;
        shown.append(isThrown ? ((Class<?>) got).getSimpleName() : got).append(' ');
        return !isThrown;
    }

    private static void figures(BendTable t, StringBuilder shown) {
        note(shown, t, s -> s.stocks());
        note(shown, t, s -> s.checksum());
        note(shown, t, s -> s.isSound());
        note(shown, t, s -> s.nestedShare());
        for (int i = 0; i < 7; i++) {
            int gauge = i;
            note(shown, t, s -> s.setting(gauge));
        }
        for (int i = 0; i < 11; i++) {
            int stock = i;
            note(shown, t, s -> s.sheets(stock));
            note(shown, t, s -> s.size(stock, false));
            note(shown, t, s -> s.size(stock, true));
        }
        for (int i = 0; i < 11; i++) {
            int line = i;
            note(shown, t, s -> s.took(line));
            note(shown, t, s -> s.waste(line));
            note(shown, t, s -> s.ends(line));
            note(shown, t, s -> s.late(line));
            note(shown, t, s -> s.price(line));
        }
        for (int i = 0; i < 8; i++) {
            for (int j = 0; j < 10; j++) {
                int part = i;
                int stock = j;
                note(shown, t, s -> s.fits(part, stock));
            }
        }
    }

    private static void flats(BendTable t, StringBuilder shown) {
        for (int i = 0; i < 9; i++) {
            int part = i;
            note(shown, t, s -> s.faces(part));
            note(shown, t, s -> s.width(part));
            note(shown, t, s -> s.height(part));
            note(shown, t, s -> s.area(part));
            note(shown, t, s -> s.outline(part));
            note(shown, t, s -> s.reliefs(part));
            note(shown, t, s -> s.faults(part));
            note(shown, t, s -> s.hasFault(part, 'o'));
            note(shown, t, s -> s.hasFault(part, 'h'));
            note(shown, t, s -> s.hasFault(part, 'c'));
            note(shown, t, s -> s.hits(part));
            note(shown, t, s -> s.flatTime(part));
            note(shown, t, s -> s.pressTime(part));
            note(shown, t, s -> s.meanAddition(part));
            note(shown, t, s -> s.cost(part));
            note(shown, t, s -> s.orders(part));
            for (int j = 0; j < 9; j++) {
                int hole = j;
                note(shown, t, s -> s.toolOf(part, hole));
            }
        }
    }

    private static void faces(BendTable t, StringBuilder shown) {
        for (int i = 0; i < 8; i++) {
            for (int j = 0; j < 8; j++) {
                int part = i;
                int face = j;
                boolean isThere = note(shown, t, s -> s.flatAt(part, face, 'x'));
                for (int k = 1; isThere && k < 4; k++) {
                    char what = "xywh".charAt(k);
                    note(shown, t, s -> s.flatAt(part, face, what));
                }
            }
        }
    }

    private static void space(BendTable t, StringBuilder shown) {
        for (int i = 0; i < 5; i++) {
            int part = i;
            int bends = allBends(t, part);
            for (int j = 0; j < 8; j++) {
                int face = j;
                boolean isThere = note(shown, t, s -> s.spaceAt(part, bends, face, 'x', false));
                for (int k = 1; isThere && k < 6; k++) {
                    char direction = "xyz".charAt(k / 2);
                    boolean isGreater = k % 2 == 1;
                    note(shown, t, s -> s.spaceAt(part, bends, face, direction, isGreater));
                }
            }
            note(shown, t, s -> s.isMet(part, bends));
        }
    }

    private static void press(BendTable t, StringBuilder shown) {
        for (int i = 0; i < 6; i++) {
            int part = i;
            int bends = allBends(t, part);
            for (int j = 1; j < 8; j++) {
                int bend = j;
                boolean isThere = note(shown, t, s -> s.force(part, bend));
                if (isThere) {
                    note(shown, t, s -> s.strikes(part, 0, bend));
                    note(shown, t, s -> s.strikes(part, bends & ~(1 << bend), bend));
                    note(shown, t, s -> s.bendAt(part, bend - 1));
                }
            }
        }
        note(shown, t, s -> s.tools(5, 20, 8, 60));
        note(shown, t, s -> s.limits(400, 200));
    }

    /** What each addition answers next: how many there are by now, and which parts are in a line. */
    private static void additions(BendTable t, StringBuilder shown) {
        for (int i = 0; i < 6; i++) {
            for (int j = 0; j < 5; j++) {
                int gauge = i;
                note(shown, t, s -> s.measure(gauge, 1000));
                note(shown, t, s -> s.setting(gauge));
            }
        }
        for (int i = 0; i < 8; i++) {
            int part = i;
            note(shown, t, s -> s.hole(part, 0, 1, 1, 1, 1));
            note(shown, t, s -> s.face(part, 0, 'n', 0, 1, 1, 'u'));
            note(shown, t, s -> s.line(part, 1, 0));
        }
        for (int i = 0; i < 10; i++) {
            int line = i;
            note(shown, t, s -> s.nest(line));
            note(shown, t, s -> s.waste(line));
        }
        note(shown, t, s -> s.nestedShare());
        note(shown, t, s -> s.isSound());
        note(shown, t, s -> s.gauge(10, 1));
        note(shown, t, s -> s.part(0, 4, 4, 'x'));
        note(shown, t, s -> s.tool(1, 1));
        note(shown, t, s -> s.stock(0, 10, 10, 'x', 1));
        note(shown, t, s -> s.line(0, 1, 0));
    }

    private static int allBends(BendTable t, int part) {
        Object faces = Edge.answer(t, s -> s.faces(part));
        return faces instanceof Integer ? (1 << (Integer) faces) - 2 : 0;
    }
}
