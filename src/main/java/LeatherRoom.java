import java.util.NoSuchElementException;

/**
 * Lays parts of leather on a hide: each as low as it can lie, and as far to the left as it can
 * there, within the outline, off zones that are not good enough for it, beside all parts that lie
 * there, to the last lattice point.
 *
 * <p>All rows are made in the constructor and used again, so that no call makes any but the
 * exception that it throws.
 */
public final class LeatherRoom {
    private static final int MOST_COORDINATE = 30;
    private static final int MOST_KIND_COORDINATE = 12;
    private static final int LEAST_CORNERS = 3;
    private static final int MOST_CORNERS = 12;
    private static final int MOST_ROUND_CORNERS = 6;
    private static final int MOST_ZONES = 5;
    private static final int MOST_ZONE_GRADE = 3;
    private static final int MOST_KINDS = 6;
    private static final int MOST_KIND_GRADE = 4;
    private static final int TURNS = 4;
    private static final int ALL_TURNS = 15;
    private static final int MOST_PARTS = 12;
    private static final int PLACE_Y = 32;
    private static final int PLACE_TURN = 1024;
    private static final int NOWHERE = -1;

    private final Shape waiting = new Shape();
    private final Shape offered = new Shape();
    /** The hide; without corners as long as there is none. */
    private final Shape outline = new Shape();
    private final Zone[] zones = new Zone[MOST_ZONES];
    private final Kind[] kinds = new Kind[MOST_KINDS];
    private final Part[] lots = new Part[MOST_PARTS];
    private int zoneCount;
    private int kindCount;
    private int partCount;

    public LeatherRoom() {
        for (int i = 0; i < MOST_ZONES; i++) {
            zones[i] = new Zone();
        }
        for (int i = 0; i < MOST_KINDS; i++) {
            kinds[i] = new Kind();
        }
        for (int i = 0; i < MOST_PARTS; i++) {
            lots[i] = new Part();
        }
    }

    public int corner(int x, int y) throws IllegalArgumentException, IllegalStateException {
        if (!isPoint(x, y)) {
            throw new IllegalArgumentException("a coordinate is not 0 .. 30");
        }
        if (waiting.size >= MOST_CORNERS) {
            throw new IllegalStateException("12 corners wait");
        }
        waiting.add(x, y);
        return waiting.size;
    }

    public void hide() throws IllegalStateException, IllegalArgumentException {
        if (partCount > 0) {
            throw new IllegalStateException("some part lies there");
        }
        Shape shape = endWait();
        if (!shape.isPlain()) {
            throw new IllegalArgumentException("the corners are not a plain shape of 3 .. 12");
        }
        outline.copy(shape, 0, 0);
    }

    public int zone(int grade) throws IllegalArgumentException, IllegalStateException {
        if (grade < 1 || grade > MOST_ZONE_GRADE) {
            throw new IllegalArgumentException("grade is not 1 .. 3");
        }
        Shape shape = endWait();
        if (!shape.isRound()) {
            throw new IllegalArgumentException("the corners are not a round shape of 3 .. 6");
        }
        if (zoneCount >= MOST_ZONES) {
            throw new IllegalStateException("there are 5 zones");
        }
        if (partCount > 0) {
            throw new IllegalStateException("some part lies there");
        }
        zones[zoneCount].become(grade, shape);
        zoneCount++;
        return zoneCount;
    }

    public void clear() throws IllegalStateException {
        if (partCount > 0) {
            throw new IllegalStateException("some part lies there");
        }
        zoneCount = 0;
    }

    public int kind(int grade, int turns) throws IllegalArgumentException, IllegalStateException {
        if (grade < 1 || grade > MOST_KIND_GRADE) {
            throw new IllegalArgumentException("grade is not 1 .. 4");
        }
        if (turns < 1 || turns > ALL_TURNS) {
            throw new IllegalArgumentException("turns is not 1 .. 15");
        }
        Shape shape = endWait();
        if (!shape.isRound()) {
            throw new IllegalArgumentException("the corners are not a round shape of 3 .. 6");
        }
        if (shape.highX > MOST_KIND_COORDINATE || shape.highY > MOST_KIND_COORDINATE) {
            throw new IllegalArgumentException("a coordinate is above 12");
        }
        if (kindCount >= MOST_KINDS) {
            throw new IllegalStateException("there are 6 kinds");
        }
        kinds[kindCount].become(grade, turns, shape);
        kindCount++;
        return kindCount - 1;
    }

    public boolean fits(int kind, int x, int y, int turn) throws IllegalArgumentException {
        if (!isKind(kind) || !isPoint(x, y) || !isTurn(turn)) {
            throw new IllegalArgumentException("there is no such kind, point or turn");
        }
        return canLie(kinds[kind], x, y, turn);
    }

    public int best(int kind) throws IllegalArgumentException, NoSuchElementException {
        if (!isKind(kind)) {
            throw new IllegalArgumentException("there is no such kind");
        }
        int place = findPlace(kinds[kind]);
        if (place == NOWHERE) {
            throw new NoSuchElementException("it fits nowhere");
        }
        return place;
    }

    public int lay(int kind)
            throws IllegalArgumentException, IllegalStateException, NoSuchElementException {
        if (!isKind(kind)) {
            throw new IllegalArgumentException("there is no such kind");
        }
        if (partCount >= MOST_PARTS) {
            throw new IllegalStateException("there are 12 parts");
        }
        int place = findPlace(kinds[kind]);
        if (place == NOWHERE) {
            throw new NoSuchElementException("it fits nowhere");
        }
        int turn = place / PLACE_TURN;
        int y = place % PLACE_TURN / PLACE_Y;
        int x = place % PLACE_Y;
        return addPart(kind, x, y, turn);
    }

    public int put(int kind, int x, int y, int turn)
            throws IllegalArgumentException, IllegalStateException, UnsupportedOperationException {
        if (!isKind(kind) || !isPoint(x, y) || !isTurn(turn)) {
            throw new IllegalArgumentException("there is no such kind, point or turn");
        }
        if (partCount >= MOST_PARTS) {
            throw new IllegalStateException("there are 12 parts");
        }
        if (!canLie(kinds[kind], x, y, turn)) {
            throw new UnsupportedOperationException("it does not fit");
        }
        return addPart(kind, x, y, turn);
    }

    public int take(int part) throws NoSuchElementException {
        if (!isPart(part)) {
            throw new NoSuchElementException("there is no such part");
        }
        lots[part].lies = false;
        partCount--;
        return lots[part].kind;
    }

    public int strip() {
        int before = partCount;
        for (int i = 0; i < MOST_PARTS; i++) {
            lots[i].lies = false;
        }
        partCount = 0;
        return before;
    }

    public int part(int part, int what) throws IllegalArgumentException, NoSuchElementException {
        if (what < 0 || what > 3) {
            throw new IllegalArgumentException("what is not 0 .. 3");
        }
        if (!isPart(part)) {
            throw new NoSuchElementException("there is no such part");
        }
        switch (what) {
            case 0:
                return lots[part].kind;
            case 1:
                return lots[part].x;
            case 2:
                return lots[part].y;
            default:
                return lots[part].turn;
        }
    }

    public int parts() {
        return partCount;
    }

    public int free() {
        int area = Math.abs(outline.doubleArea());
        for (int i = 0; i < MOST_PARTS; i++) {
            if (lots[i].lies) {
                area -= lots[i].shape.doubleArea();
            }
        }
        return area;
    }

    private static boolean isPoint(int x, int y) {
        return x >= 0 && x <= MOST_COORDINATE && y >= 0 && y <= MOST_COORDINATE;
    }

    private static boolean isTurn(int turn) {
        return turn >= 0 && turn < TURNS;
    }

    private boolean isKind(int kind) {
        return kind >= 0 && kind < kindCount;
    }

    private boolean isPart(int part) {
        return part >= 0 && part < MOST_PARTS && lots[part].lies;
    }

    /** No corner waits then, whatever becomes of those that did. */
    private Shape endWait() {
        offered.copy(waiting, 0, 0);
        waiting.empty();
        return offered;
    }

    private boolean canLie(Kind kind, int x, int y, int turn) {
        if (!kind.hasTurn(turn)) {
            return false;
        }
        Shape piece = kind.turned[turn];
        // The hide comes last since it is the dearest to ask.
        return outline.boxHolds(piece, x, y)
                && isOffParts(piece, x, y)
                && isOffZones(piece, x, y, kind.grade)
                && outline.holds(piece, x, y);
    }

    private boolean isOffParts(Shape piece, int x, int y) {
        for (int i = 0; i < MOST_PARTS; i++) {
            if (lots[i].lies && lots[i].shape.overlaps(piece, x, y)) {
                return false;
            }
        }
        return true;
    }

    private boolean isOffZones(Shape piece, int x, int y, int needed) {
        for (int i = 0; i < zoneCount; i++) {
            if (zones[i].grade < needed && zones[i].shape.overlaps(piece, x, y)) {
                return false;
            }
        }
        return true;
    }

    /** The best place in the form that best answers, or NOWHERE. */
    private int findPlace(Kind kind) {
        // A part within the hide is at a point of the hide's box.
        for (int y = outline.lowY; y < outline.highY; y++) {
            for (int x = outline.lowX; x < outline.highX; x++) {
                for (int turn = 0; turn < TURNS; turn++) {
                    if (canLie(kind, x, y, turn)) {
                        return x + PLACE_Y * y + PLACE_TURN * turn;
                    }
                }
            }
        }
        return NOWHERE;
    }

    /** Lays a part that is known to fit, while fewer than 12 lie there. */
    private int addPart(int kind, int x, int y, int turn) {
        int number = 0;
        while (number < MOST_PARTS - 1 && lots[number].lies) {
            number++;
        }
        lots[number].become(kind, x, y, turn);
        lots[number].shape.copy(kinds[kind].turned[turn], x, y);
        partCount++;
        return number;
    }

    /** A zone, its corners going round to the left. */
    private static final class Zone {
        final Shape shape = new Shape();
        int grade;

        void become(int newGrade, Shape corners) {
            grade = newGrade;
            shape.copyLeftward(corners, 0, 0);
        }
    }

    /** A kind with its corners in all turns, going round to the left. */
    private static final class Kind {
        final Shape[] turned = new Shape[TURNS];
        int grade;
        int turns;

        Kind() {
            for (int t = 0; t < TURNS; t++) {
                turned[t] = new Shape();
            }
        }

        void become(int newGrade, int newTurns, Shape corners) {
            grade = newGrade;
            turns = newTurns;
            turned[0].copyLeftward(corners, -corners.lowX, -corners.lowY);
            for (int t = 1; t < TURNS; t++) {
                turned[t].copyTurned(turned[t - 1]);
            }
        }

        boolean hasTurn(int turn) {
            return (turns >> turn & 1) == 1;
        }
    }

    /** A number for a part; its shape has the corners where they lie on the hide. */
    private static final class Part {
        final Shape shape = new Shape();
        boolean lies;
        int kind;
        int x;
        int y;
        int turn;

        void become(int newKind, int newX, int newY, int newTurn) {
            lies = true;
            kind = newKind;
            x = newX;
            y = newY;
            turn = newTurn;
        }
    }

    /**
     * Corners in their order, and the least box round them; side i goes from corner i to the next.
     * A round shape that others are held against has its corners going round to the left, so that
     * what is inside lies to the left of every side.
     */
    private static final class Shape {
        /** Room for the largest shape, so that any shape can be copied to any other. */
        final int[] x = new int[MOST_CORNERS];
        final int[] y = new int[MOST_CORNERS];
        int size;
        int lowX;
        int highX;
        int lowY;
        int highY;

        void empty() {
            size = 0;
        }

        void add(int newX, int newY) {
            if (size >= MOST_CORNERS) {
                return;
            }
            lowX = size == 0 ? newX : Math.min(lowX, newX);
            highX = size == 0 ? newX : Math.max(highX, newX);
            lowY = size == 0 ? newY : Math.min(lowY, newY);
            highY = size == 0 ? newY : Math.max(highY, newY);
            x[size] = newX;
            y[size] = newY;
            size++;
        }

        void copy(Shape from, int dx, int dy) {
            empty();
            for (int i = 0; i < from.size; i++) {
                add(from.x[i] + dx, from.y[i] + dy);
            }
        }

        void copyLeftward(Shape from, int dx, int dy) {
            if (from.doubleArea() > 0) {
                copy(from, dx, dy);
                return;
            }
            empty();
            for (int i = from.size - 1; i >= 0; i--) {
                add(from.x[i] + dx, from.y[i] + dy);
            }
        }

        /** Copies a shape after one turn, moved so that its least coordinates are 0. */
        void copyTurned(Shape from) {
            empty();
            for (int i = 0; i < from.size; i++) {
                add(from.highY - from.y[i], from.x[i] - from.lowX);
            }
        }

        int next(int i) {
            return i + 1 < size ? i + 1 : 0;
        }

        /** Twice the area, below 0 if the corners go round to the right. */
        int doubleArea() {
            int sum = 0;
            for (int i = 0; i < size; i++) {
                int j = next(i);
                sum += x[i] * y[j] - x[j] * y[i];
            }
            return sum;
        }

        /** Above 0 if a point is to the left of the line through a side, 0 if it is on the line. */
        int beside(int side, int px, int py) {
            int end = side + 1 < size ? side + 1 : 0;
            return (x[end] - x[side]) * (py - y[side]) - (y[end] - y[side]) * (px - x[side]);
        }

        boolean isRound() {
            if (size < LEAST_CORNERS || size > MOST_ROUND_CORNERS) {
                return false;
            }
            int way = beside(0, x[2], y[2]) > 0 ? 1 : -1;
            for (int side = 0; side < size; side++) {
                for (int k = 0; k < size; k++) {
                    boolean isEnd = k == side || k == next(side);
                    if (!isEnd && way * beside(side, x[k], y[k]) <= 0) {
                        return false;
                    }
                }
            }
            return true;
        }

        boolean isPlain() {
            if (size < LEAST_CORNERS) {
                return false;
            }
            for (int i = 0; i < size; i++) {
                if (foldsBack(i)) {
                    return false;
                }
                for (int j = i + 2; j < size; j++) {
                    boolean followsRound = next(j) == i;
                    if (!followsRound && sidesMeet(i, j)) {
                        return false;
                    }
                }
            }
            return true;
        }

        /** Whether a side and the next one have more in common than the corner between them. */
        boolean foldsBack(int side) {
            int mid = next(side);
            int end = next(mid);
            int along = (x[side] - x[mid]) * (x[end] - x[mid])
                    + (y[side] - y[mid]) * (y[end] - y[mid]);
            // With 0, one of the sides has no length: its ends are two corners at one point.
            return beside(side, x[end], y[end]) == 0 && along >= 0;
        }

        /** Whether two sides have a point in common. */
        boolean sidesMeet(int i, int j) {
            return rangesMeet(x[i], x[next(i)], x[j], x[next(j)])
                    && rangesMeet(y[i], y[next(i)], y[j], y[next(j)])
                    && lineMeets(i, j)
                    && lineMeets(j, i);
        }

        /** Whether the straight line through a side has a point in common with another side. */
        boolean lineMeets(int line, int side) {
            int end = next(side);
            int one = Integer.signum(beside(line, x[side], y[side]));
            int other = Integer.signum(beside(line, x[end], y[end]));
            return one * other <= 0;
        }

        static boolean rangesMeet(int a, int b, int c, int d) {
            return Math.max(a, b) >= Math.min(c, d) && Math.max(c, d) >= Math.min(a, b);
        }

        /** Whether the box round a piece moved by (dx, dy) is within the box round this shape. */
        boolean boxHolds(Shape piece, int dx, int dy) {
            return piece.lowX + dx >= lowX
                    && piece.highX + dx <= highX
                    && piece.lowY + dy >= lowY
                    && piece.highY + dy <= highY;
        }

        /** Whether points are inside both this round shape and a round piece moved by (dx, dy). */
        boolean overlaps(Shape piece, int dx, int dy) {
            boolean boxesApart = piece.highX + dx <= lowX
                    || piece.lowX + dx >= highX
                    || piece.highY + dy <= lowY
                    || piece.lowY + dy >= highY;
            // Two round shapes are apart just if the line through a side of one of them parts them.
            return !boxesApart && !sideParts(piece, dx, dy) && !piece.sideParts(this, -dx, -dy);
        }

        /** Whether some side of this round shape has no corner of another on its inner side. */
        boolean sideParts(Shape other, int dx, int dy) {
            for (int side = 0; side < size; side++) {
                boolean outer = true;
                for (int k = 0; k < other.size && outer; k++) {
                    outer = beside(side, other.x[k] + dx, other.y[k] + dy) <= 0;
                }
                if (outer) {
                    return true;
                }
            }
            return false;
        }

        /** Whether all points inside a round piece, moved by (dx, dy), are inside this shape. */
        boolean holds(Shape piece, int dx, int dy) {
            for (int side = 0; side < size; side++) {
                if (sideCuts(side, piece, dx, dy)) {
                    return false;
                }
            }
            // No rim goes through the piece, so one point inside it speaks for all of them.
            int sumX = piece.x[0] + piece.x[1] + piece.x[2];
            int sumY = piece.y[0] + piece.y[1] + piece.y[2];
            return surrounds(sumX + 3 * dx, sumY + 3 * dy);
        }

        /** Whether a side of this shape has points inside a round piece moved by (dx, dy). */
        boolean sideCuts(int side, Shape piece, int dx, int dy) {
            int end = next(side);
            int ax = x[side] - dx;
            int ay = y[side] - dy;
            int bx = x[end] - dx;
            int by = y[end] - dy;
            boolean boxesApart = Math.max(ax, bx) <= piece.lowX
                    || Math.min(ax, bx) >= piece.highX
                    || Math.max(ay, by) <= piece.lowY
                    || Math.min(ay, by) >= piece.highY;
            return !boxesApart && lineCuts(side, piece, dx, dy) && !piece.isBeyond(ax, ay, bx, by);
        }

        /** Whether a moved piece has corners on both sides of the line through a side. */
        boolean lineCuts(int side, Shape piece, int dx, int dy) {
            boolean left = false;
            boolean right = false;
            for (int k = 0; k < piece.size; k++) {
                int at = beside(side, piece.x[k] + dx, piece.y[k] + dy);
                left = left || at > 0;
                right = right || at < 0;
            }
            return left && right;
        }

        /** Whether some side of this round shape has neither of two points on its inner side. */
        boolean isBeyond(int ax, int ay, int bx, int by) {
            for (int side = 0; side < size; side++) {
                if (beside(side, ax, ay) <= 0 && beside(side, bx, by) <= 0) {
                    return true;
                }
            }
            return false;
        }

        /** Whether a point off the rim, told in thirds, is inside this plain shape. */
        boolean surrounds(int thirdsX, int thirdsY) {
            boolean inside = false;
            for (int i = 0; i < size; i++) {
                int j = next(i);
                boolean above = 3 * y[i] > thirdsY;
                boolean nextAbove = 3 * y[j] > thirdsY;
                int at = (x[j] - x[i]) * (thirdsY - 3 * y[i])
                        - (y[j] - y[i]) * (thirdsX - 3 * x[i]);
                // The ray to the right meets this side if the point is left of it going upwards.
                if (above != nextAbove && (nextAbove ? at > 0 : at < 0)) {
                    inside = !inside;
                }
            }
            return inside;
        }
    }
}
