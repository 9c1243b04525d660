import java.util.ArrayList;
import java.util.NoSuchElementException;

/** A shop of sheet metal, from the gauges and the folded parts to the lots and their prices. */
public final class BendTable {
    private static final int MOST_GAUGES = 6;
    private static final int MOST_PARTS = 8;
    private static final int MOST_FACES = 8;
    private static final int MOST_BENDS = MOST_FACES - 1;
    private static final int MOST_HOLES = 8;
    private static final int MOST_TOOLS = 6;
    private static final int MOST_STOCKS = 10;
    private static final int MOST_LINES = 10;
    private static final int MOST_MEASURES = 5;

    private static final int BETWEEN_PIECES = 2;
    private static final int LEAST_OFFCUT = 20;
    private static final int RIGHT_ANGLE = 900;
    private static final int DAY = 480;

    private static final int STRUCK_PUNCH = 1;
    private static final int STRUCK_DIE = 2;
    private static final int STRUCK_BED = 4;
    private static final int FACES_MEET = 8;

    private final ArrayList<Gauge> gauges = new ArrayList<Gauge>();
    private final ArrayList<Part> parts = new ArrayList<Part>();
    private final ArrayList<Tool> turret = new ArrayList<Tool>();
    private final ArrayList<Stock> store = new ArrayList<Stock>();
    private final ArrayList<Line> lines = new ArrayList<Line>();
    private final Press press = new Press();
    private final Flat flat = new Flat();
    private final Fold fold = new Fold();

    public BendTable() {
    }

    // ---- gauges and parts

    public int gauge(int thickness, int addition) throws IllegalArgumentException, IllegalStateException {
        if (isOutside(thickness, 5, 60) || isOutside(addition, 0, 20)) {
            throw new IllegalArgumentException("the thickness is 5 to 60, the addition 0 to 20");
        }
        if (gauges.size() >= MOST_GAUGES) {
            throw new IllegalStateException("there are 6 gauges");
        }
        gauges.add(new Gauge(thickness, addition));
        return gauges.size() - 1;
    }

    public int part(int gauge, int width, int height, char grain)
            throws IndexOutOfBoundsException, IllegalArgumentException, IllegalStateException {
        Gauge sheet = gaugeAt(gauge);
        if (isOutside(width, 4, 300) || isOutside(height, 4, 300) || (grain != '-' && !isSheetGrain(grain))) {
            throw new IllegalArgumentException("a part is 4 to 300 wide and high, with the grain x, y or -");
        }
        if (parts.size() >= MOST_PARTS) {
            throw new IllegalStateException("there are 8 parts");
        }
        Part added = new Part(sheet, width, height, grain);
        flat.measureUp(added);
        parts.add(added);
        return parts.size() - 1;
    }

    public int face(int part, int of, char side, int distance, int length, int depth, char bend)
            throws IndexOutOfBoundsException, IllegalArgumentException, UnsupportedOperationException,
            IllegalStateException {
        Part owner = partAt(part);
        Face root = faceAt(owner, of);
        if (!isSide(side) || !isBendKind(bend) || distance < 0 || length < 1
                || (long) distance + length > root.sideLength(side) || isOutside(depth, 1, 300)) {
            throw new IllegalArgumentException("no such side, bend, stretch of the side, or depth");
        }
        if (owner.isOrdered || root.hangsBy(side) || owner.isTaken(of, side, distance, length)) {
            throw new UnsupportedOperationException("the part is in a line, or the place is taken");
        }
        if (owner.faces.size() >= MOST_FACES) {
            throw new IllegalStateException("there are 8 faces");
        }
        Face added = new Face(of, side, distance, length, depth, bend);
        added.lieBeyond(root, owner.gauge.addition);
        owner.faces.add(added);
        owner.plan.forget();
        flat.measureUp(owner);
        return owner.faces.size() - 1;
    }

    public int hole(int part, int face, int x, int y, int width, int height)
            throws IndexOutOfBoundsException, IllegalArgumentException, UnsupportedOperationException,
            IllegalStateException {
        Part owner = partAt(part);
        Face around = faceAt(owner, face);
        if (lacksMargin(x, width, around.width) || lacksMargin(y, height, around.height)) {
            throw new IllegalArgumentException("a hole is 1 wide and high at least, with a margin of 1 at least");
        }
        if (owner.isOrdered) {
            throw new UnsupportedOperationException("the part is in a line");
        }
        if (owner.holes.size() >= MOST_HOLES) {
            throw new IllegalStateException("there are 8 holes");
        }
        owner.holes.add(new Hole(face, x, y, width, height));
        return owner.holes.size();
    }

    public int faces(int part) throws IndexOutOfBoundsException {
        return partAt(part).faces.size();
    }

    // ---- the flat

    public int flatAt(int part, int face, char what) throws IndexOutOfBoundsException, IllegalArgumentException {
        Face asked = faceAt(partAt(part), face);
        switch (what) {
            case 'x':
                return asked.x;
            case 'y':
                return asked.y;
            case 'w':
                return asked.width;
            case 'h':
                return asked.height;
            default:
                throw new IllegalArgumentException("a face in the flat has x, y, w and h");
        }
    }

    public int width(int part) throws IndexOutOfBoundsException {
        return partAt(part).flatWidth;
    }

    public int height(int part) throws IndexOutOfBoundsException {
        return partAt(part).flatHeight;
    }

    public int area(int part) throws IndexOutOfBoundsException {
        return partAt(part).metal();
    }

    public int outline(int part) throws IndexOutOfBoundsException {
        return partAt(part).edges;
    }

    public int reliefs(int part) throws IndexOutOfBoundsException {
        return partAt(part).countReliefs();
    }

    public int faults(int part) throws IndexOutOfBoundsException {
        return countFaults(partAt(part));
    }

    public boolean hasFault(int part, char fault) throws IndexOutOfBoundsException, IllegalArgumentException {
        Part asked = partAt(part);
        switch (fault) {
            case 'o':
                return !asked.isFlat;
            case 'h':
                return asked.hasHoleAtBend();
            case 'c':
                return meets(asked, asked.allBends());
            default:
                throw new IllegalArgumentException("the faults are o, h and c");
        }
    }

    // ---- space and press

    public int spaceAt(int part, int bends, int face, char direction, boolean isGreater)
            throws IndexOutOfBoundsException, IllegalArgumentException {
        Part asked = partAt(part);
        requireFace(asked, face);
        int axis = axisOf(direction);
        if (axis == 0 || asked.isWithout(bends)) {
            throw new IllegalArgumentException("no such direction, or another bend");
        }
        fold.lay(asked, bends);
        return isGreater ? fold.most(face, axis) : fold.least(face, axis);
    }

    public boolean isMet(int part, int bends) throws IndexOutOfBoundsException, IllegalArgumentException {
        Part asked = partAt(part);
        if (asked.isWithout(bends)) {
            throw new IllegalArgumentException("another bend");
        }
        return meets(asked, bends);
    }

    public int tools(int punch, int clear, int die, int bed) throws IllegalArgumentException {
        if (isOutside(punch, 1, 60) || isOutside(clear, 0, 100) || isOutside(die, 1, 60) || isOutside(bed, 1, 300)) {
            throw new IllegalArgumentException("punch and die are 1 to 60, the clear height 0 to 100, the bed 1 to 300");
        }
        return press.setTools(punch, clear, die, bed);
    }

    public int limits(int length, int force) throws IllegalArgumentException {
        if (isOutside(length, 1, 999) || isOutside(force, 0, 999)) {
            throw new IllegalArgumentException("the length is 1 to 999, the force 0 to 999");
        }
        return press.setLimits(length, force);
    }

    public int force(int part, int bend) throws IndexOutOfBoundsException {
        Part asked = partAt(part);
        Face bent = bentFaceAt(asked, bend);
        return press.forceFor(bent.length, asked.gauge.thickness);
    }

    public char strikes(int part, int bends, int bend)
            throws IndexOutOfBoundsException, IllegalArgumentException, UnsupportedOperationException {
        Part asked = partAt(part);
        Face bent = bentFaceAt(asked, bend);
        if (asked.isWithout(bends)) {
            throw new IllegalArgumentException("another bend");
        }
        if (isAmong(bends, bend)) {
            throw new UnsupportedOperationException("the bend is made");
        }
        return firstStrike(asked, bent, bends, bend);
    }

    public int cost(int part) throws IndexOutOfBoundsException, NoSuchElementException {
        return goodPlan(partAt(part)).cost;
    }

    public int bendAt(int part, int place) throws IndexOutOfBoundsException, NoSuchElementException {
        Plan plan = goodPlan(partAt(part));
        if (place < 0 || place >= plan.bends) {
            throw new NoSuchElementException("no such place");
        }
        return plan.bendIn(place);
    }

    public int orders(int part) throws IndexOutOfBoundsException {
        return planOf(partAt(part)).goodOrders;
    }

    // ---- turret

    public int tool(int width, int height) throws IllegalArgumentException, IllegalStateException {
        if (isOutside(width, 1, 60) || isOutside(height, 1, 60)) {
            throw new IllegalArgumentException("a tool is 1 to 60 wide and high");
        }
        if (turret.size() >= MOST_TOOLS) {
            throw new IllegalStateException("there are 6 tools");
        }
        turret.add(new Tool(width, height));
        return turret.size() - 1;
    }

    public int toolOf(int part, int hole) throws IndexOutOfBoundsException {
        Part asked = partAt(part);
        if (hole < 0 || hole >= asked.holes.size()) {
            throw new IndexOutOfBoundsException("no such hole");
        }
        return toolFor(asked.holes.get(hole));
    }

    public int hits(int part) throws IndexOutOfBoundsException {
        return countHits(partAt(part));
    }

    public int flatTime(int part) throws IndexOutOfBoundsException {
        return turretTime(partAt(part));
    }

    public int pressTime(int part) throws IndexOutOfBoundsException, NoSuchElementException {
        Part asked = partAt(part);
        return bendingTime(asked, goodPlan(asked));
    }

    // ---- sheets, lines, nests

    public int stock(int gauge, int width, int height, char grain, int count)
            throws IndexOutOfBoundsException, IllegalArgumentException, IllegalStateException {
        Gauge sheet = gaugeAt(gauge);
        if (isOutside(width, 4, 900) || isOutside(height, 4, 900) || !isSheetGrain(grain) || isOutside(count, 1, 20)) {
            throw new IllegalArgumentException("1 to 20 sheets are 4 to 900 wide and high, with the grain x or y");
        }
        if (store.size() >= MOST_STOCKS) {
            throw new IllegalStateException("there are 10 stocks");
        }
        store.add(new Stock(sheet, width, height, grain, count));
        return store.size() - 1;
    }

    public int sheets(int stock) throws IndexOutOfBoundsException {
        return stockAt(stock).sheetsLeft;
    }

    public int size(int stock, boolean isHeight) throws IndexOutOfBoundsException {
        Stock asked = stockAt(stock);
        return isHeight ? asked.height : asked.width;
    }

    public int stocks() {
        return store.size();
    }

    public int line(int part, int count, int due)
            throws IndexOutOfBoundsException, IllegalArgumentException, UnsupportedOperationException,
            IllegalStateException {
        Part wanted = partAt(part);
        if (isOutside(count, 1, 40) || isOutside(due, 0, 99)) {
            throw new IllegalArgumentException("the count is 1 to 40, the due day 0 to 99");
        }
        if (countFaults(wanted) > 0 || planOf(wanted).goodOrders < 1) {
            throw new UnsupportedOperationException("the part has a fault, or no good order");
        }
        if (lines.size() >= MOST_LINES) {
            throw new IllegalStateException("there are 10 lines");
        }
        lines.add(new Line(wanted, count, due));
        wanted.isOrdered = true;
        return lines.size() - 1;
    }

    public int fits(int part, int stock) throws IndexOutOfBoundsException, UnsupportedOperationException {
        Part piece = partAt(part);
        Stock asked = stockAt(stock);
        if (piece.gauge != asked.gauge) {
            throw new UnsupportedOperationException("the gauges are unlike");
        }
        return asked.room(piece);
    }

    public int nest(int line) throws IndexOutOfBoundsException, UnsupportedOperationException, NoSuchElementException {
        Line asked = lineAt(line);
        if (asked.isNested()) {
            throw new UnsupportedOperationException("the line is nested");
        }
        if (roomFor(asked.part) < asked.count) {
            throw new NoSuchElementException("there are not enough sheets");
        }
        takeSheets(asked);
        return asked.sheetsTaken;
    }

    public int took(int line) throws IndexOutOfBoundsException {
        return lineAt(line).sheetsTaken;
    }

    public int waste(int line) throws IndexOutOfBoundsException, NoSuchElementException {
        Line asked = lineAt(line);
        if (!asked.isNested()) {
            throw new NoSuchElementException("the line is not nested");
        }
        return asked.wasteShare();
    }

    // ---- angles, lots, prices

    public int measure(int gauge, int tenths) throws IndexOutOfBoundsException, IllegalArgumentException {
        Gauge measured = gaugeAt(gauge);
        if (isOutside(tenths, 300, 1200)) {
            throw new IllegalArgumentException("a measure is 300 to 1200");
        }
        return measured.tell(RIGHT_ANGLE - tenths);
    }

    public int setting(int gauge) throws IndexOutOfBoundsException {
        return RIGHT_ANGLE + gaugeAt(gauge).meanLack();
    }

    public int ends(int line) throws IndexOutOfBoundsException, NoSuchElementException {
        return endOf(lineAt(line));
    }

    public int late(int line) throws IndexOutOfBoundsException, NoSuchElementException {
        Line asked = lineAt(line);
        // The last minute of a day still belongs to that day.
        int day = (endOf(asked) - 1) / DAY;
        return Math.max(0, day - asked.due);
    }

    public long price(int line) throws IndexOutOfBoundsException, NoSuchElementException {
        Line asked = lineAt(line);
        Part piece = asked.part;
        Plan plan = goodPlan(piece);
        long metal = (long) piece.flatWidth * piece.flatHeight * piece.gauge.thickness / 100;
        long each = metal + turretTime(piece) + bendingTime(piece, plan);
        return asked.count * each + 50;
    }

    // ---- figures

    public float nestedShare() throws ArithmeticException {
        int all = 0;
        int nested = 0;
        for (int i = 0; i < lines.size(); i++) {
            Line line = lines.get(i);
            all += line.count;
            nested += line.isNested() ? line.count : 0;
        }
        if (all == 0) {
            throw new ArithmeticException("there are no pieces");
        }
        return (float) nested / (float) all;
    }

    public double meanAddition(int part) throws IndexOutOfBoundsException, ArithmeticException {
        Part asked = partAt(part);
        int bends = asked.countBends();
        if (bends == 0) {
            throw new ArithmeticException("there are no bends");
        }
        return (double) (bends * asked.gauge.addition) / (double) bends;
    }

    public long checksum() {
        long sum = 7;
        for (int i = 0; i < parts.size(); i++) {
            Part part = parts.get(i);
            sum = 31 * sum + part.metal();
            sum = 31 * sum + part.edges;
            sum = 31 * sum + planOf(part).goodOrders;
        }
        return sum;
    }

    public boolean isSound() {
        for (int i = 0; i < parts.size(); i++) {
            Part part = parts.get(i);
            if (countFaults(part) == 0 && !hasSoundPlan(part)) {
                return false;
            }
        }
        for (int i = 0; i < lines.size(); i++) {
            Line line = lines.get(i);
            if (line.isNested() && line.piecesLaid != line.count) {
                return false;
            }
        }
        return true;
    }

    // ---- what is looked at before it is used

    private Gauge gaugeAt(int gauge) {
        if (gauge < 0 || gauge >= gauges.size()) {
            throw new IndexOutOfBoundsException("no such gauge");
        }
        return gauges.get(gauge);
    }

    private Part partAt(int part) {
        if (part < 0 || part >= parts.size()) {
            throw new IndexOutOfBoundsException("no such part");
        }
        return parts.get(part);
    }

    private Stock stockAt(int stock) {
        if (stock < 0 || stock >= store.size()) {
            throw new IndexOutOfBoundsException("no such stock");
        }
        return store.get(stock);
    }

    private Line lineAt(int line) {
        if (line < 0 || line >= lines.size()) {
            throw new IndexOutOfBoundsException("no such line");
        }
        return lines.get(line);
    }

    private static void requireFace(Part part, int face) {
        if (face < 0 || face >= part.faces.size()) {
            throw new IndexOutOfBoundsException("no such face");
        }
    }

    private static Face faceAt(Part part, int face) {
        requireFace(part, face);
        return part.faces.get(face);
    }

    // The face 0 hangs nowhere, so that there is no bend 0.
    private static Face bentFaceAt(Part part, int bend) {
        if (bend < 1 || bend >= part.faces.size()) {
            throw new IndexOutOfBoundsException("no such bend");
        }
        return part.faces.get(bend);
    }

    private static boolean isOutside(int number, int least, int most) {
        return number < least || number > most;
    }

    private static boolean isSide(char side) {
        return side == 'n' || side == 'e' || side == 's' || side == 'w';
    }

    private static boolean isBendKind(char bend) {
        return bend == 'u' || bend == 'd' || bend == 'h';
    }

    private static boolean isSheetGrain(char grain) {
        return grain == 'x' || grain == 'y';
    }

    private static boolean lacksMargin(int start, int length, int whole) {
        return start < 1 || length < 1 || (long) start + length > whole - 1;
    }

    private static int axisOf(char direction) {
        return direction == 'x' ? 1 : direction == 'y' ? 2 : direction == 'z' ? 3 : 0;
    }

    private static boolean isAmong(int bends, int bend) {
        return (bends >> bend & 1) != 0;
    }

    private static int roundedUp(int whole, int unit) {
        return unit < 1 ? 0 : (whole + unit - 1) / unit;
    }

    // ---- parts on the press

    private boolean meets(Part part, int bends) {
        fold.lay(part, bends);
        return fold.hasMeetingFaces(part);
    }

    private int countFaults(Part part) {
        int kinds = part.isFlat ? 0 : 1;
        kinds += part.hasHoleAtBend() ? 1 : 0;
        kinds += meets(part, part.allBends()) ? 1 : 0;
        return kinds;
    }

    private int clash(Part part, int bends, int bend) {
        fold.lay(part, bends);
        int meeting = fold.hasMeetingFaces(part) ? FACES_MEET : 0;
        return meeting | press.struckBy(part, fold, bend);
    }

    private char firstStrike(Part part, Face bent, int bends, int bend) {
        int found = clash(part, bends, bend) | clash(part, bends | 1 << bend, bend);
        if ((found & STRUCK_PUNCH) != 0) {
            return 'p';
        }
        if ((found & STRUCK_DIE) != 0) {
            return 'd';
        }
        if ((found & STRUCK_BED) != 0) {
            return 'b';
        }
        if ((found & FACES_MEET) != 0) {
            return 'm';
        }
        if (press.isTooLong(bent)) {
            return 'l';
        }
        return press.isTooStrong(bent, part.gauge) ? 'f' : '-';
    }

    private Plan planOf(Part part) {
        Plan plan = part.plan;
        if (plan.setup != press.setup) {
            plan.search(part, press, fold);
        }
        return plan;
    }

    private Plan goodPlan(Part part) {
        Plan plan = planOf(part);
        if (plan.goodOrders < 1) {
            throw new NoSuchElementException("there is no good order");
        }
        return plan;
    }

    private boolean hasSoundPlan(Part part) {
        Plan plan = planOf(part);
        return plan.goodOrders < 1
                || (walkedCost(part, plan) == plan.cost && plan.leastCost(part, fold) == plan.cost);
    }

    /** What the best order costs when it is gone through bend by bend, -1 if it is not good. */
    private int walkedCost(Part part, Plan plan) {
        int made = 0;
        int last = 0;
        int sum = 0;
        for (int place = 0; place < plan.bends; place++) {
            int bend = plan.bendIn(place);
            if (bend < 1 || bend >= part.faces.size() || isAmong(made, bend)
                    || firstStrike(part, part.faces.get(bend), made, bend) != '-') {
                return -1;
            }
            fold.lay(part, made);
            sum += fold.turn(part, last, bend);
            made |= 1 << bend;
            last = bend;
        }
        return sum;
    }

    // ---- times

    private int toolFor(Hole hole) {
        int best = -1;
        int fewest = 0;
        for (int i = 0; i < turret.size(); i++) {
            int needed = turret.get(i).hitsFor(hole);
            if (needed > 0 && (best < 0 || needed < fewest)) {
                best = i;
                fewest = needed;
            }
        }
        return best;
    }

    private int hitsFor(Hole hole) {
        int best = toolFor(hole);
        return best < 0 || best >= turret.size() ? 0 : turret.get(best).hitsFor(hole);
    }

    private int countHits(Part part) {
        int sum = 0;
        for (int i = 0; i < part.holes.size(); i++) {
            sum += hitsFor(part.holes.get(i));
        }
        return sum;
    }

    private int turretTime(Part part) {
        int used = 0;
        int cut = part.edges;
        for (int i = 0; i < part.holes.size(); i++) {
            Hole hole = part.holes.get(i);
            int best = toolFor(hole);
            if (best < 0) {
                cut += 2 * (hole.width + hole.height);
            } else {
                used |= 1 << best;
            }
        }
        return countHits(part) + 5 * Integer.bitCount(used) + roundedUp(cut, 50);
    }

    private static int bendingTime(Part part, Plan plan) {
        return 6 * part.countBends() + 6 * part.countHems() + 2 * plan.cost;
    }

    private int endOf(Line asked) {
        if (!asked.isNested() || planOf(asked.part).goodOrders < 1) {
            throw new NoSuchElementException("the line is not nested, or its part has no good order");
        }
        int turretFree = 0;
        int pressFree = 0;
        for (int day = 0; day <= asked.due; day++) {
            for (int i = 0; i < lines.size(); i++) {
                Line line = lines.get(i);
                if (line.due != day || !line.isNested() || planOf(line.part).goodOrders < 1) {
                    continue;
                }
                turretFree += line.count * turretTime(line.part);
                pressFree = Math.max(turretFree, pressFree)
                        + line.count * bendingTime(line.part, line.part.plan);
                if (line == asked) {
                    return pressFree;
                }
            }
        }
        return pressFree;
    }

    // ---- nests

    private int roomFor(Part piece) {
        int room = 0;
        for (int i = 0; i < store.size(); i++) {
            Stock stock = store.get(i);
            if (stock.gauge == piece.gauge) {
                room += stock.sheetsLeft * stock.room(piece);
            }
        }
        return room;
    }

    private void takeSheets(Line line) {
        // Offcuts of this line come behind its sheets: only the stocks of before are gone through.
        int before = store.size();
        for (int i = 0; i < before && i < store.size(); i++) {
            Stock stock = store.get(i);
            int room = stock.gauge == line.part.gauge ? stock.room(line.part) : 0;
            while (room > 0 && stock.sheetsLeft > 0 && line.piecesLaid < line.count) {
                int pieces = Math.min(room, line.count - line.piecesLaid);
                stock.sheetsLeft--;
                line.lay(pieces, stock);
                keepOffcut(line, stock, pieces);
            }
        }
    }

    private void keepOffcut(Line line, Stock stock, int pieces) {
        int left = stock.heightLeft(line.part, pieces);
        if (left < LEAST_OFFCUT || stock.width < LEAST_OFFCUT || store.size() >= MOST_STOCKS) {
            return;
        }
        store.add(new Stock(stock.gauge, stock.width, left, stock.grain, 1));
        line.offcutArea += (long) stock.width * left;
    }

    // ---- classes

    private static final class Gauge {
        final int thickness;
        final int addition;
        private final int[] lacks = new int[MOST_MEASURES];
        private int told;
        private int next;

        Gauge(int thickness, int addition) {
            this.thickness = thickness;
            this.addition = addition;
        }

        /** Takes in what a bend lacked, and tells how many measures count then. */
        int tell(int lack) {
            if (next < 0 || next >= lacks.length) {
                next = 0;
            }
            lacks[next] = lack;
            next++;
            told = Math.min(told + 1, lacks.length);
            return told;
        }

        int meanLack() {
            int sum = 0;
            for (int i = 0; i < told && i < lacks.length; i++) {
                sum += lacks[i];
            }
            return told < 1 ? 0 : sum / told;
        }
    }

    private static final class Hole {
        final int face;
        final int x;
        final int y;
        final int width;
        final int height;

        Hole(int face, int x, int y, int width, int height) {
            this.face = face;
            this.x = x;
            this.y = y;
            this.width = width;
            this.height = height;
        }

        /** How far it is from a side of its face. */
        int gapTo(char side, Face around) {
            switch (side) {
                case 'e':
                    return around.width - x - width;
                case 'w':
                    return x;
                case 'n':
                    return around.height - y - height;
                default:
                    return y;
            }
        }
    }

    private static final class Tool {
        final int width;
        final int height;

        Tool(int width, int height) {
            this.width = width;
            this.height = height;
        }

        /** How many hits it needs, 0 if it can't punch the hole. */
        int hitsFor(Hole hole) {
            if (width > hole.width || height > hole.height) {
                return 0;
            }
            return roundedUp(hole.width, width) * roundedUp(hole.height, height);
        }
    }

    private static final class Face {
        final int of;
        final char side;
        final int distance;
        final int length;
        final int depth;
        final char bend;
        final int width;
        final int height;
        int x;
        int y;

        /** A face 0, which hangs nowhere. */
        Face(int width, int height) {
            this.of = -1;
            this.side = '-';
            this.distance = 0;
            this.length = 0;
            this.depth = 0;
            this.bend = '-';
            this.width = width;
            this.height = height;
        }

        Face(int of, char side, int distance, int length, int depth, char bend) {
            this.of = of;
            this.side = side;
            this.distance = distance;
            this.length = length;
            this.depth = depth;
            this.bend = bend;
            boolean isBeside = side == 'e' || side == 'w';
            this.width = isBeside ? depth : length;
            this.height = isBeside ? length : depth;
        }

        int sideLength(char asked) {
            return asked == 'e' || asked == 'w' ? height : width;
        }

        /** Which of its own sides it hangs by. */
        char hangingSide() {
            switch (side) {
                case 'e':
                    return 'w';
                case 'w':
                    return 'e';
                case 'n':
                    return 's';
                case 's':
                    return 'n';
                default:
                    return '-';
            }
        }

        boolean hangsBy(char asked) {
            return hangingSide() == asked;
        }

        void lieBeyond(Face root, int addition) {
            x = root.x;
            y = root.y;
            switch (side) {
                case 'e':
                    x += root.width + addition;
                    y += distance;
                    break;
                case 'w':
                    x -= addition + depth;
                    y += distance;
                    break;
                case 'n':
                    x += distance;
                    y += root.height + addition;
                    break;
                default:
                    x += distance;
                    y -= addition + depth;
                    break;
            }
        }
    }

    private static final class Part {
        final Gauge gauge;
        final char grain;
        final ArrayList<Face> faces = new ArrayList<Face>();
        final ArrayList<Hole> holes = new ArrayList<Hole>();
        final Plan plan = new Plan();
        int flatWidth;
        int flatHeight;
        int covered;
        int edges;
        boolean isFlat;
        boolean isOrdered;

        Part(Gauge gauge, int width, int height, char grain) {
            this.gauge = gauge;
            this.grain = grain;
            faces.add(new Face(width, height));
        }

        int countBends() {
            return Math.max(0, Math.min(faces.size() - 1, MOST_BENDS));
        }

        int allBends() {
            return (1 << countBends() + 1) - 2;
        }

        boolean isWithout(int bends) {
            return (bends & ~allBends()) != 0;
        }

        int countHems() {
            int hems = 0;
            for (int i = 0; i < faces.size(); i++) {
                hems += faces.get(i).bend == 'h' ? 1 : 0;
            }
            return hems;
        }

        boolean isTaken(int of, char side, int distance, int length) {
            for (int i = 0; i < faces.size(); i++) {
                Face other = faces.get(i);
                if (other.of == of && other.side == side && distance < other.distance + other.length
                        && other.distance < distance + length) {
                    return true;
                }
            }
            return false;
        }

        /** What is covered, less each hole. */
        int metal() {
            int sum = covered;
            for (int i = 0; i < holes.size(); i++) {
                sum -= holes.get(i).width * holes.get(i).height;
            }
            return sum;
        }

        int countReliefs() {
            int reliefs = 0;
            for (int i = 1; i < faces.size(); i++) {
                Face face = faces.get(i);
                if (face.of < 0 || face.of >= faces.size()) {
                    continue;
                }
                int side = faces.get(face.of).sideLength(face.side);
                reliefs += face.distance > 0 ? 1 : 0;
                reliefs += face.distance + face.length < side ? 1 : 0;
            }
            return reliefs;
        }

        boolean hasHoleAtBend() {
            for (int i = 0; i < holes.size(); i++) {
                if (isAtBend(holes.get(i))) {
                    return true;
                }
            }
            return false;
        }

        private boolean isAtBend(Hole hole) {
            if (hole.face < 0 || hole.face >= faces.size()) {
                return false;
            }
            Face around = faces.get(hole.face);
            if (hole.face > 0 && isNear(hole, around.hangingSide(), around)) {
                return true;
            }
            for (int i = 1; i < faces.size(); i++) {
                Face hanging = faces.get(i);
                if (hanging.of == hole.face && isNear(hole, hanging.side, around)) {
                    return true;
                }
            }
            return false;
        }

        // The gap is whole, the thickness in tenths.
        private boolean isNear(Hole hole, char side, Face around) {
            return 10 * hole.gapTo(side, around) < 3 * gauge.thickness;
        }
    }

    /** Works out what faces and strips of a part cover together: its rows are used again for each part. */
    private static final class Flat {
        private static final int MOST_RECTANGLES = MOST_FACES + MOST_BENDS;
        private static final int MOST_CUTS = 2 * MOST_RECTANGLES;

        private final int[] left = new int[MOST_RECTANGLES];
        private final int[] right = new int[MOST_RECTANGLES];
        private final int[] low = new int[MOST_RECTANGLES];
        private final int[] high = new int[MOST_RECTANGLES];
        private int rectangles;
        private final int[] columns = new int[MOST_CUTS];
        private int columnCuts;
        private final int[] rows = new int[MOST_CUTS];
        private int rowCuts;
        // A row's covered cells, as bits: 30 cuts leave 29 cells.
        private final int[] cells = new int[MOST_CUTS];

        void measureUp(Part part) {
            collect(part);
            columnCuts = sortCuts(left, right, columns);
            rowCuts = sortCuts(low, high, rows);
            paint();
            part.flatWidth = span(columns, columnCuts);
            part.flatHeight = span(rows, rowCuts);
            part.covered = coveredArea();
            part.edges = uprightEdges() + levelEdges();
            part.isFlat = !hasOverlap();
        }

        private void collect(Part part) {
            rectangles = 0;
            for (int i = 0; i < part.faces.size(); i++) {
                Face face = part.faces.get(i);
                add(face.x, face.y, face.width, face.height);
                addStrip(face, part.gauge.addition);
            }
        }

        private void addStrip(Face face, int addition) {
            // A strip of no length covers nothing, and overlaps nothing.
            if (addition < 1) {
                return;
            }
            switch (face.side) {
                case 'e':
                    add(face.x - addition, face.y, addition, face.height);
                    break;
                case 'w':
                    add(face.x + face.width, face.y, addition, face.height);
                    break;
                case 'n':
                    add(face.x, face.y - addition, face.width, addition);
                    break;
                case 's':
                    add(face.x, face.y + face.height, face.width, addition);
                    break;
                default:
                    break;
            }
        }

        private void add(int x, int y, int width, int height) {
            if (rectangles < 0 || rectangles >= MOST_RECTANGLES) {
                return;
            }
            left[rectangles] = x;
            right[rectangles] = x + width;
            low[rectangles] = y;
            high[rectangles] = y + height;
            rectangles++;
        }

        private int sortCuts(int[] starts, int[] ends, int[] cuts) {
            int count = 0;
            for (int i = 0; i < rectangles && i < starts.length && i < ends.length; i++) {
                count = putCut(cuts, count, starts[i]);
                count = putCut(cuts, count, ends[i]);
            }
            return count;
        }

        private static int putCut(int[] cuts, int count, int cut) {
            int place = 0;
            while (place < count && place < cuts.length && cuts[place] < cut) {
                place++;
            }
            if (place >= cuts.length || count >= cuts.length || (place < count && cuts[place] == cut)) {
                return count;
            }
            for (int i = count; i > place; i--) {
                cuts[i] = cuts[i - 1];
            }
            cuts[place] = cut;
            return count + 1;
        }

        private static int span(int[] cuts, int count) {
            return count < 1 || count > cuts.length ? 0 : cuts[count - 1] - cuts[0];
        }

        private void paint() {
            for (int row = 0; row < cells.length; row++) {
                cells[row] = 0;
                for (int i = 0; row + 1 < rowCuts && i < rectangles && i < MOST_RECTANGLES; i++) {
                    if (low[i] <= rows[row] && rows[row] < high[i]) {
                        cells[row] |= columnsOf(i);
                    }
                }
            }
        }

        private int columnsOf(int rectangle) {
            int bits = 0;
            if (rectangle < 0 || rectangle >= MOST_RECTANGLES) {
                return bits;
            }
            for (int column = 0; column + 1 < columnCuts && column < columns.length; column++) {
                if (left[rectangle] <= columns[column] && columns[column] < right[rectangle]) {
                    bits |= 1 << column;
                }
            }
            return bits;
        }

        private int coveredArea() {
            int sum = 0;
            for (int row = 0; row + 1 < rowCuts && row + 1 < rows.length; row++) {
                sum += (rows[row + 1] - rows[row]) * lengthOf(cells[row]);
            }
            return sum;
        }

        private int lengthOf(int bits) {
            int sum = 0;
            for (int column = 0; column + 1 < columnCuts && column + 1 < columns.length; column++) {
                sum += (bits >> column & 1) != 0 ? columns[column + 1] - columns[column] : 0;
            }
            return sum;
        }

        private int uprightEdges() {
            int sum = 0;
            for (int row = 0; row + 1 < rowCuts && row + 1 < rows.length; row++) {
                // A bit here is an edge between a cell and the one before it.
                int changes = Integer.bitCount(cells[row] ^ cells[row] << 1);
                sum += changes * (rows[row + 1] - rows[row]);
            }
            return sum;
        }

        private int levelEdges() {
            int sum = 0;
            int below = 0;
            for (int row = 0; row < cells.length; row++) {
                sum += lengthOf(below ^ cells[row]);
                below = cells[row];
            }
            return sum + lengthOf(below);
        }

        private boolean hasOverlap() {
            for (int a = 0; a < rectangles && a < MOST_RECTANGLES; a++) {
                for (int b = 0; b < a; b++) {
                    if (left[a] < right[b] && left[b] < right[a] && low[a] < high[b] && low[b] < high[a]) {
                        return true;
                    }
                }
            }
            return false;
        }
    }

    /**
     * A part in space. A direction is 1, 2 or 3 along x, y or z, and the same below 0 against it: faces lie
     * along these alone, so that no turn needs more.
     */
    private static final class Fold {
        private static final int AXES = 3;

        private final int[] right = new int[MOST_FACES];
        private final int[] up = new int[MOST_FACES];
        private final int[] top = new int[MOST_FACES];
        private final int[] corner = new int[MOST_FACES * AXES];
        private final int[] low = new int[MOST_FACES * AXES];
        private final int[] high = new int[MOST_FACES * AXES];

        void lay(Part part, int bends) {
            for (int i = 0; i < part.faces.size() && i < MOST_FACES; i++) {
                Face face = part.faces.get(i);
                if (face.of >= 0 && face.of < i) {
                    hang(i, face, part.faces.get(face.of), isAmong(bends, i));
                } else {
                    start(i);
                }
                stretch(i, face);
            }
        }

        private void start(int i) {
            if (i < 0 || i >= MOST_FACES) {
                return;
            }
            right[i] = 1;
            up[i] = 2;
            top[i] = 3;
            for (int axis = 0; axis < AXES; axis++) {
                corner[i * AXES + axis] = 0;
            }
        }

        private void hang(int i, Face face, Face root, boolean isMade) {
            int of = face.of;
            if (i < 0 || i >= MOST_FACES || of < 0 || of >= MOST_FACES) {
                return;
            }
            int out = outward(face);
            char bend = isMade ? face.bend : '-';
            int newOut = bend == 'u' ? top[of] : bend == 'd' ? -top[of] : bend == 'h' ? -out : out;
            top[i] = bend == 'u' ? -out : bend == 'd' ? out : bend == 'h' ? -top[of] : top[of];
            right[i] = face.side == 'e' ? newOut : face.side == 'w' ? -newOut : right[of];
            up[i] = face.side == 'n' ? newOut : face.side == 's' ? -newOut : up[of];
            // At 'w' and 's' its lower left corner is at its far end.
            boolean isNearCorner = face.side == 'e' || face.side == 'n';
            int onward = isNearCorner ? out : newOut;
            int by = face.side == 'e' ? root.width : face.side == 'n' ? root.height : face.depth;
            int lift = bend == 'h' ? 1 : 0;
            int along = alongLine(face);
            for (int axis = 0; axis < AXES; axis++) {
                corner[i * AXES + axis] = corner[of * AXES + axis] + face.distance * share(along, axis)
                        + by * share(onward, axis) + lift * share(top[of], axis);
            }
        }

        private void stretch(int i, Face face) {
            for (int axis = 0; axis < AXES && i >= 0 && i < MOST_FACES; axis++) {
                int at = i * AXES + axis;
                int other = corner[at] + face.width * share(right[i], axis) + face.height * share(up[i], axis);
                low[at] = Math.min(corner[at], other);
                high[at] = Math.max(corner[at], other);
            }
        }

        private static int share(int direction, int axis) {
            return direction == axis + 1 ? 1 : direction == -axis - 1 ? -1 : 0;
        }

        /** The least place of a face, counted along a direction. */
        int least(int face, int direction) {
            int axis = (direction < 0 ? -direction : direction) - 1;
            if (face < 0 || face >= MOST_FACES || axis < 0 || axis >= AXES) {
                return 0;
            }
            int at = face * AXES + axis;
            return direction > 0 ? low[at] : -high[at];
        }

        int most(int face, int direction) {
            int axis = (direction < 0 ? -direction : direction) - 1;
            if (face < 0 || face >= MOST_FACES || axis < 0 || axis >= AXES) {
                return 0;
            }
            int at = face * AXES + axis;
            return direction > 0 ? high[at] : -low[at];
        }

        /** Where the side lies by which a face hangs, seen from the face at which it hangs. */
        int outward(Face face) {
            if (face.of < 0 || face.of >= MOST_FACES) {
                return 0;
            }
            switch (face.side) {
                case 'e':
                    return right[face.of];
                case 'w':
                    return -right[face.of];
                case 'n':
                    return up[face.of];
                default:
                    return -up[face.of];
            }
        }

        /** The direction of the line of a face's bend, from its lower left end. */
        int alongLine(Face face) {
            if (face.of < 0 || face.of >= MOST_FACES) {
                return 0;
            }
            return face.side == 'e' || face.side == 'w' ? up[face.of] : right[face.of];
        }

        /** What is above when the bend of a face is made. */
        int above(Face face) {
            if (face.of < 0 || face.of >= MOST_FACES) {
                return 0;
            }
            return face.bend == 'd' ? -top[face.of] : top[face.of];
        }

        /** What it costs to go on from a bend to another one; ahead of the first bend, from 0, nothing. */
        int turn(Part part, int from, int to) {
            int size = part.faces.size();
            if (from < 1 || from >= size || to < 1 || to >= size) {
                return 0;
            }
            Face last = part.faces.get(from);
            Face next = part.faces.get(to);
            int over = above(last) == above(next) ? 0 : 3;
            int about = Math.abs(alongLine(last)) == Math.abs(alongLine(next)) ? 0 : 1;
            return over + about;
        }

        boolean hasMeetingFaces(Part part) {
            for (int b = 0; b < part.faces.size(); b++) {
                int of = part.faces.get(b).of;
                for (int a = 0; a < b; a++) {
                    if (a != of && isMeeting(a, b)) {
                        return true;
                    }
                }
            }
            return false;
        }

        private boolean isMeeting(int a, int b) {
            for (int direction = 1; direction <= AXES; direction++) {
                if (!isShared(least(a, direction), most(a, direction), least(b, direction), most(b, direction))) {
                    return false;
                }
            }
            return true;
        }

        private static boolean isShared(int lowA, int highA, int lowB, int highB) {
            if (lowA == highA && lowB == highB) {
                return lowA == lowB;
            }
            return lowA < highB && lowB < highA;
        }
    }

    private static final class Press {
        private int punch = 5;
        private int clear = 20;
        private int die = 8;
        private int bed = 60;
        private int greatestLength = 400;
        private int greatestForce = 200;
        /** Which setup this is: what was found with another one may hold no more. */
        int setup = 1;

        int setTools(int newPunch, int newClear, int newDie, int newBed) {
            int changed = (punch == newPunch ? 0 : 1) + (clear == newClear ? 0 : 1)
                    + (die == newDie ? 0 : 1) + (bed == newBed ? 0 : 1);
            punch = newPunch;
            clear = newClear;
            die = newDie;
            bed = newBed;
            setup++;
            return changed;
        }

        int setLimits(int length, int force) {
            int before = greatestForce;
            greatestLength = length;
            greatestForce = force;
            setup++;
            return before;
        }

        int forceFor(int length, int thickness) {
            int divisor = 1000 * die;
            return divisor < 1 ? 0 : length * thickness * thickness / divisor;
        }

        boolean isTooLong(Face bent) {
            return bent.length > greatestLength;
        }

        boolean isTooStrong(Face bent, Gauge gauge) {
            return forceFor(bent.length, gauge.thickness) > greatestForce;
        }

        /** The bends, as bits, that are neither too long nor too strong. */
        int withinLimits(Part part) {
            int bends = 0;
            for (int i = 1; i < part.faces.size(); i++) {
                Face bent = part.faces.get(i);
                bends |= isTooLong(bent) || isTooStrong(bent, part.gauge) ? 0 : 1 << i;
            }
            return bends;
        }

        /** The bends, as bits, for which the part strikes nothing as it is folded. */
        int unstruckBends(Part part, Fold fold) {
            int bends = 0;
            for (int i = 1; i < part.faces.size(); i++) {
                bends |= struckBy(part, fold, i) == 0 ? 1 << i : 0;
            }
            return bends;
        }

        /** What the part strikes as it is folded, when it lies on the die for a bend. */
        int struckBy(Part part, Fold fold, int bend) {
            int found = 0;
            if (bend < 1 || bend >= part.faces.size()) {
                return found;
            }
            Face bent = part.faces.get(bend);
            int above = fold.above(bent);
            int out = fold.outward(bent);
            int along = fold.alongLine(bent);
            int ground = fold.least(bent.of, above);
            int line = fold.most(bent.of, out);
            int start = fold.least(bent.of, along) + bent.distance;
            int end = start + bent.length;
            // A place lies strictly within its face: a stretch has places beyond a bound if its end is beyond it.
            for (int i = 0; i < part.faces.size(); i++) {
                int bottom = fold.least(i, above) - ground;
                int roof = fold.most(i, above) - ground;
                int near = fold.least(i, out) - line;
                int far = fold.most(i, out) - line;
                boolean isBetween = fold.least(i, along) < end && start < fold.most(i, along);
                found |= isBetween && roof > clear && near < punch && -punch < far ? STRUCK_PUNCH : 0;
                found |= isBetween && bottom < 0 && near < die && -die < far ? STRUCK_DIE : 0;
                found |= bottom < -bed ? STRUCK_BED : 0;
            }
            return found;
        }
    }

    /** The good orders of a part's bends. Bends that are made stand as bits by their numbers. */
    private static final class Plan {
        private static final int SETS = 1 << MOST_BENDS;
        private static final int NO_ORDER = 1 << 20;

        private final int[] possible = new int[SETS];
        private final int[] ways = new int[SETS];
        // Costs and next bends stand by what is made, and by the bend that was made last, 0 at first.
        private final int[] costs = new int[SETS * MOST_FACES];
        private final int[] nextBends = new int[SETS * MOST_FACES];
        private final int[] order = new int[MOST_BENDS];
        int setup;
        int bends;
        int cost;
        int goodOrders;

        void forget() {
            setup = 0;
        }

        int bendIn(int place) {
            return place < 0 || place >= order.length ? 0 : order[place];
        }

        void search(Part part, Press press, Fold fold) {
            setup = press.setup;
            bends = part.countBends();
            int all = part.allBends();
            int allowed = press.withinLimits(part);
            // The fullest sets come first: each one needs the figures of those with one bend more.
            for (int made = all; made >= 0; made -= 2) {
                fold.lay(part, made);
                setPossible(made, fold.hasMeetingFaces(part) ? 0 : allowed & press.unstruckBends(part, fold));
                settle(part, fold, made, all);
            }
            goodOrders = ways[0];
            cost = costs[0];
            follow();
        }

        private void setPossible(int made, int unstruck) {
            int set = made >> 1;
            if (set >= 0 && set < SETS) {
                possible[set] = unstruck;
            }
        }

        private boolean canBeMade(int made, int bend) {
            int set = made >> 1;
            int then = (made | 1 << bend) >> 1;
            if (isAmong(made, bend) || set < 0 || then < 0 || set >= SETS || then >= SETS) {
                return false;
            }
            return isAmong(possible[set] & possible[then], bend);
        }

        /** Where the figures of a state stand, 0 for one that is none. */
        private static int slot(int made, int last) {
            int slot = (made >> 1) * MOST_FACES + last;
            return slot < 0 || slot >= SETS * MOST_FACES ? 0 : slot;
        }

        private void settle(Part part, Fold fold, int made, int all) {
            int set = made >> 1;
            if (set < 0 || set >= SETS) {
                return;
            }
            ways[set] = made == all ? 1 : countWays(made);
            for (int last = 0; last <= bends; last++) {
                if (made == all) {
                    costs[slot(made, last)] = 0;
                } else if (last == 0 ? made == 0 : isAmong(made, last)) {
                    settleBehind(part, fold, made, last);
                }
            }
        }

        private int countWays(int made) {
            int sum = 0;
            for (int bend = 1; bend <= bends; bend++) {
                int then = (made | 1 << bend) >> 1;
                if (canBeMade(made, bend) && then >= 0 && then < SETS) {
                    sum += ways[then];
                }
            }
            return sum;
        }

        private void settleBehind(Part part, Fold fold, int made, int last) {
            int best = NO_ORDER;
            int next = 0;
            for (int bend = 1; bend <= bends; bend++) {
                if (!canBeMade(made, bend)) {
                    continue;
                }
                int sum = costs[slot(made | 1 << bend, bend)] + fold.turn(part, last, bend);
                // Only what is less replaces: the lowest bend of several stays.
                if (sum < best) {
                    best = sum;
                    next = bend;
                }
            }
            costs[slot(made, last)] = best;
            nextBends[slot(made, last)] = next;
        }

        private void follow() {
            int made = 0;
            int last = 0;
            for (int place = 0; place < bends && place < order.length; place++) {
                last = nextBends[slot(made, last)];
                order[place] = last;
                made |= last < 1 ? 0 : 1 << last;
            }
        }

        /** The least cost of a good order, searched from the first bend on: a second way to the cost. */
        int leastCost(Part part, Fold fold) {
            int all = part.allBends();
            for (int i = 0; i < costs.length; i++) {
                costs[i] = NO_ORDER;
            }
            costs[slot(0, 0)] = 0;
            for (int made = 0; made < all; made += 2) {
                fold.lay(part, made);
                for (int last = 0; last <= bends; last++) {
                    if (costs[slot(made, last)] < NO_ORDER) {
                        goOn(part, fold, made, last);
                    }
                }
            }
            int least = NO_ORDER;
            for (int last = 0; last <= bends; last++) {
                least = Math.min(least, costs[slot(all, last)]);
            }
            return least;
        }

        private void goOn(Part part, Fold fold, int made, int last) {
            for (int bend = 1; bend <= bends; bend++) {
                if (canBeMade(made, bend)) {
                    int then = slot(made | 1 << bend, bend);
                    int sum = costs[slot(made, last)] + fold.turn(part, last, bend);
                    costs[then] = Math.min(costs[then], sum);
                }
            }
        }
    }

    private static final class Stock {
        final Gauge gauge;
        final int width;
        final int height;
        final char grain;
        int sheetsLeft;

        Stock(Gauge gauge, int width, int height, char grain, int sheetsLeft) {
            this.gauge = gauge;
            this.width = width;
            this.height = height;
            this.grain = grain;
            this.sheetsLeft = sheetsLeft;
        }

        private boolean isTurned(Part piece) {
            if (piece.grain != '-') {
                return piece.grain != grain;
            }
            return piece.flatWidth > width || piece.flatHeight > height;
        }

        private static int howMany(int length, int piece) {
            int each = piece + BETWEEN_PIECES;
            return each < 1 ? 0 : (length + BETWEEN_PIECES) / each;
        }

        private int perRow(Part piece) {
            return howMany(width, isTurned(piece) ? piece.flatHeight : piece.flatWidth);
        }

        private int rowHeight(Part piece) {
            return isTurned(piece) ? piece.flatWidth : piece.flatHeight;
        }

        /** How many pieces lie on a sheet. */
        int room(Part piece) {
            return perRow(piece) * howMany(height, rowHeight(piece));
        }

        /** How much of the height is left above the rows of some pieces, and the gap behind them. */
        int heightLeft(Part piece, int pieces) {
            int rows = roundedUp(pieces, perRow(piece));
            return height - rows * (rowHeight(piece) + BETWEEN_PIECES);
        }
    }

    private static final class Line {
        final Part part;
        final int count;
        final int due;
        int sheetsTaken;
        int piecesLaid;
        long sheetArea;
        long offcutArea;

        Line(Part part, int count, int due) {
            this.part = part;
            this.count = count;
            this.due = due;
        }

        boolean isNested() {
            return sheetsTaken > 0;
        }

        void lay(int pieces, Stock stock) {
            sheetsTaken++;
            piecesLaid += pieces;
            sheetArea += (long) stock.width * stock.height;
        }

        /** What is neither flat nor kept offcut, in thousandths of the sheets. */
        int wasteShare() {
            long lost = sheetArea - (long) count * part.metal() - offcutArea;
            return sheetArea < 1 ? 0 : (int) (lost * 1000 / sheetArea);
        }
    }
}
