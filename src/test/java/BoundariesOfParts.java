/**
 * The sentences of promises 7 to 15 that name a boundary case, each with a test of its own that
 * quotes it: the last value that is allowed and the first that is not, the refused calls, and what
 * is as it was after them.
 */
public final class BoundariesOfParts {
    private static final int LEAST = Integer.MIN_VALUE;
    private static final int MOST = Integer.MAX_VALUE;
    private static final int[] NO_COORDINATE = {-1, 31, -30, 32, LEAST, MOST};
    private static final int[] NO_TURN = {-1, 4, -4, 5, LEAST, MOST};
    /** With three kinds, 0 to 2. */
    private static final int[] NO_KIND = {-1, 3, 5, 6, LEAST, MOST};
    private static final int[] NO_PART = {-1, 12, -12, 13, LEAST, MOST};
    private static final Story WAITS = Rooms.offered(3, 3, 9, 4, 5, 8);
    private static final Story IN_USE = Rooms.IN_USE.then(WAITS);
    private static final Story FULL = Rooms.FULL.then(WAITS);
    private static final Story[] ANY = {Rooms.FURNISHED, IN_USE, FULL};

    private BoundariesOfParts() {
    }

    public static void main(String[] args) {
        fitsTouchingTheHide();
        fitsTouchingSlants();
        fitsTouchingBends();
        fitsLevelWithCorners();
        fitsTouchingZones();
        fitsTouchingParts();
        fitsTouchingInAllTurns();
        fitsOnlyInItsTurns();
        fitsNoSuchKind();
        fitsNoSuchPoint();
        fitsNoSuchTurn();
        fitsChangesNothing();
        bestWithTwelve();
        bestAsNumber();
        bestNoSuchKind();
        bestNowhere();
        layNumbers();
        layNoSuchKind();
        layWithTwelve();
        layNowhere();
        putNumbers();
        putNoSuchPlace();
        putWithTwelve();
        putNotFitting();
        takeAway();
        takeNone();
        stripAll();
        partTells();
        partNoSuchWhat();
        partNone();
        partsCounted();
        freeWithoutHide();
        freeOfHide();
        freeLessParts();
        Check.end();
    }

    /** "Whether a kind fits (rims may touch)": the hide's rim. */
    private static void fitsTouchingTheHide() {
        LeatherRoom room = Rooms.withHide(2, 3, 22, 3, 22, 13, 2, 13);
        Rooms.kind(room, 1, 1, 0, 0, 4, 0, 4, 3, 0, 3);
        around("7 in a box", room, 2, 3, 18, 10);
        LeatherRoom all = Rooms.withHide(Rooms.BIG);
        Rooms.kind(all, 1, 1, 0, 0, 12, 0, 12, 12, 0, 12);
        Check.due("7 the first point of all", 1, () -> Rooms.fits(all, 0, 0, 0, 0));
        Check.due("7 the last point of all", 1, () -> Rooms.fits(all, 0, 18, 18, 0));
        Check.due("7 right of it", 0, () -> Rooms.fits(all, 0, 19, 18, 0));
        Check.due("7 above it", 0, () -> Rooms.fits(all, 0, 18, 19, 0));
    }

    /** "Whether a kind fits (rims may touch)": the hide's rim where it is slant. */
    private static void fitsTouchingSlants() {
        for (int[] hide : Rooms.everyStart(0, 0, 30, 0, 30, 29)) {
            LeatherRoom room = Rooms.withHide(hide);
            Rooms.kind(room, 1, 1, Rooms.SQUARE);
            Check.due("7 as near to a slant as can be", 1, () -> Rooms.fits(room, 0, 29, 27, 0));
            Check.due("7 as little beyond it as can be", 0, () -> Rooms.fits(room, 0, 1, 0, 0));
        }
        for (int[] hide : Rooms.everyStart(0, 0, 30, 0, 30, 30)) {
            LeatherRoom room = Rooms.withHide(hide);
            Rooms.kind(room, 1, 1, Rooms.SQUARE);
            Check.due("7 a corner on a slant", 1, () -> Rooms.fits(room, 0, 15, 14, 0));
            Check.due("7 a corner beyond it", 0, () -> Rooms.fits(room, 0, 14, 14, 0));
        }
        for (int[] hide : Rooms.everyStart(0, 13, 13, 0, 30, 0, 30, 30, 0, 30)) {
            LeatherRoom room = Rooms.withHide(hide);
            Rooms.kind(room, 1, 1, 3, 0, 4, 3, 0, 4);
            Check.due("7 only the box goes beyond a slant", 1, () -> Rooms.fits(room, 0, 5, 5, 0));
            Check.due("7 one to the left of that", 0, () -> Rooms.fits(room, 0, 4, 5, 0));
            Check.due("7 one below that", 0, () -> Rooms.fits(room, 0, 5, 4, 0));
        }
    }

    /** The least and most x and y where kind 0 fits, and one beyond each. */
    private static void around(String name, LeatherRoom room, int lowX, int lowY, int highX,
            int highY) {
        int[][] good = {{lowX, lowY}, {highX, lowY}, {lowX, highY}, {highX, highY}};
        for (int[] at : good) {
            Check.due(name, 1, () -> Rooms.fits(room, 0, at[0], at[1], 0));
        }
        int[][] bad = {{lowX - 1, lowY}, {lowX, lowY - 1}, {highX + 1, lowY}, {highX, lowY - 1},
            {lowX - 1, highY}, {lowX, highY + 1}, {highX + 1, highY}, {highX, highY + 1}};
        for (int[] at : bad) {
            Check.due(name + ", one beyond", 0, () -> Rooms.fits(room, 0, at[0], at[1], 0));
        }
    }

    /** "Whether a kind fits (rims may touch)": the hide's rim where it bends inwards. */
    private static void fitsTouchingBends() {
        LeatherRoom thorn = Rooms.withHide(0, 0, 20, 0, 20, 20, 11, 20, 10, 5, 9, 20, 0, 20);
        Rooms.kind(thorn, 1, 1, 0, 0, 12, 0, 12, 3, 0, 3);
        Rooms.kind(thorn, 1, 1, 0, 0, 9, 0, 9, 12, 0, 12);
        Check.due("7 the thorn's point on a side", 1, () -> Rooms.fits(thorn, 0, 4, 2, 0));
        Check.due("7 the thorn's point within", 0, () -> Rooms.fits(thorn, 0, 4, 3, 0));
        Check.due("7 the thorn's side at a corner", 1, () -> Rooms.fits(thorn, 1, 0, 8, 0));
        Check.due("7 the thorn's side over a corner", 0, () -> Rooms.fits(thorn, 1, 1, 8, 0));
        LeatherRoom cleft = Rooms.withHide(0, 0, 8, 0, 8, 8, 4, 4, 0, 8);
        Rooms.kind(cleft, 1, 1, 0, 0, 8, 0, 8, 4, 0, 4);
        Rooms.kind(cleft, 1, 1, 0, 0, 8, 0, 8, 5, 0, 5);
        Rooms.kind(cleft, 1, 1, 0, 0, 8, 0, 8, 8, 0, 8);
        Rooms.kind(cleft, 1, 1, 0, 4, 4, 0, 8, 4, 4, 8);
        Check.due("7 up to the cleft", 1, () -> Rooms.fits(cleft, 0, 0, 0, 0));
        Check.due("7 one into the cleft", 0, () -> Rooms.fits(cleft, 1, 0, 0, 0));
        Check.due("7 all corners on the rim, over the cleft", 0,
                () -> Rooms.fits(cleft, 2, 0, 0, 0));
        Check.due("7 over both of the cleft's sides", 0,
                () -> Rooms.fits(cleft, 3, 0, 0, 0));
        LeatherRoom bay = Rooms.withHide(0, 0, 4, 0, 4, 4, 8, 4, 8, 8, 0, 8);
        Rooms.kind(bay, 1, 1, 0, 0, 4, 0, 4, 4, 0, 4);
        Check.due("7 just what is cut out", 0, () -> Rooms.fits(bay, 0, 4, 0, 0));
        Check.due("7 just above what is cut out", 1, () -> Rooms.fits(bay, 0, 4, 4, 0));
        Check.due("7 just left of what is cut out", 1, () -> Rooms.fits(bay, 0, 0, 0, 0));
    }

    /** "all points inside the part .. are inside the hide": with the hide's corners on a level. */
    private static void fitsLevelWithCorners() {
        level("a corner to the right", 1, 12, 14, 15, 0, 30, 15, 15, 30, 0, 15);
        level("a thorn from above", 1, 5, 14, 0, 0, 30, 0, 30, 30, 25, 30, 20, 15, 15, 30, 0, 30);
        level("a thorn from below", 1, 5, 14, 0, 0, 15, 0, 20, 15, 25, 0, 30, 0, 30, 30, 0, 30);
        level("a step down", 1, 5, 14, 0, 0, 30, 0, 30, 15, 20, 15, 20, 30, 0, 30);
        level("a step up", 1, 5, 14, 0, 0, 20, 0, 20, 15, 30, 15, 30, 30, 0, 30);
        level("a corner on a straight way", 1, 5, 14, 0, 0, 30, 0, 30, 15, 30, 30, 0, 30);
        level("the same beyond a bay", 0, 12, 14,
                0, 0, 30, 0, 30, 15, 30, 30, 25, 30, 25, 5, 5, 5, 5, 30, 0, 30);
        level("a step beyond a bay", 0, 12, 14,
                0, 0, 30, 0, 30, 15, 27, 15, 27, 30, 25, 30, 25, 5, 5, 5, 5, 30, 0, 30);
        level("the bay's own corner", 0, 12, 14,
                0, 0, 30, 0, 30, 30, 20, 30, 25, 15, 20, 5, 5, 5, 5, 30, 0, 30);
    }

    /** A triangle whose middle is one above its place, for the hide from each corner on. */
    private static void level(String name, int want, int x, int y, int... corners) {
        for (int[] hide : Rooms.everyStart(corners)) {
            LeatherRoom room = Rooms.withHide(hide);
            Rooms.kind(room, 1, 1, 0, 0, 3, 0, 0, 3);
            Check.due("7 on a level with " + name, want, () -> Rooms.fits(room, 0, x, y, 0));
        }
    }

    /** "Whether a kind fits (rims may touch)": a zone's rim. */
    private static void fitsTouchingZones() {
        LeatherRoom room = Rooms.withHide(Rooms.BIG);
        Rooms.kind(room, 4, 1, 0, 0, 3, 0, 3, 2, 0, 2);
        Rooms.zone(room, 3, 10, 10, 20, 10, 20, 20, 10, 20);
        beside("7 beside a zone", room, 7, 8, 20, 20);
        LeatherRoom slant = Rooms.withHide(Rooms.BIG);
        Rooms.kind(slant, 4, 1, Rooms.SQUARE);
        Rooms.kind(slant, 4, 1, 0, 0, 4, 0, 4, 4, 0, 4);
        Rooms.zone(slant, 3, 0, 0, 30, 29, 0, 29);
        Check.due("7 as near to a zone as can be", 1, () -> Rooms.fits(slant, 0, 29, 27, 0));
        Check.due("7 as little in a zone as can be", 0, () -> Rooms.fits(slant, 0, 1, 0, 0));
        slant.clear();
        Rooms.zone(slant, 3, 11, 11, 12, 11, 12, 12);
        Check.due("7 a zone within the part", 0, () -> Rooms.fits(slant, 1, 10, 10, 0));
        Check.due("7 a zone's tip at the part's corner", 1,
                () -> Rooms.fits(slant, 1, 8, 12, 0));
    }

    /** Kind 0 touches, or is one nearer, on all four sides of what may not be covered. */
    private static void beside(String name, LeatherRoom room, int leftX, int belowY, int rightX,
            int aboveY) {
        int midX = (leftX + rightX) / 2;
        int midY = (belowY + aboveY) / 2;
        int[][] good = {{leftX, midY}, {rightX, midY}, {midX, belowY}, {midX, aboveY},
            {leftX, belowY}, {leftX, aboveY}, {rightX, belowY}, {rightX, aboveY}};
        for (int[] at : good) {
            Check.due(name, 1, () -> Rooms.fits(room, 0, at[0], at[1], 0));
        }
        int[][] bad = {{leftX + 1, midY}, {rightX - 1, midY}, {midX, belowY + 1},
            {midX, aboveY - 1}, {leftX + 1, belowY + 1}, {leftX + 1, aboveY - 1},
            {rightX - 1, belowY + 1}, {rightX - 1, aboveY - 1}, {midX, midY}};
        for (int[] at : bad) {
            Check.due(name + ", one over it", 0, () -> Rooms.fits(room, 0, at[0], at[1], 0));
        }
    }

    /** "Whether a kind fits (rims may touch)": a part's rim. */
    private static void fitsTouchingParts() {
        LeatherRoom room = Rooms.withHide(Rooms.BIG);
        Rooms.kind(room, 1, 1, 0, 0, 3, 0, 3, 2, 0, 2);
        Rooms.kind(room, 1, 1, 0, 0, 10, 0, 10, 10, 0, 10);
        room.put(1, 10, 10, 0);
        beside("7 beside a part", room, 7, 8, 20, 20);
        LeatherRoom slant = Rooms.withHide(Rooms.BIG);
        Rooms.kind(slant, 1, 5, 0, 0, 12, 11, 0, 11);
        Rooms.kind(slant, 1, 1, Rooms.SQUARE);
        slant.put(0, 0, 0, 0);
        Check.due("7 as near to a part as can be", 1, () -> Rooms.fits(slant, 1, 11, 9, 0));
        Check.due("7 as little in a part as can be", 0, () -> Rooms.fits(slant, 1, 1, 0, 0));
        Check.due("7 slant along slant", 1, () -> Rooms.fits(slant, 0, 0, 0, 2));
        Check.due("7 one above", 0, () -> Rooms.fits(slant, 0, 0, 1, 2));
        Check.due("7 one to the right", 1, () -> Rooms.fits(slant, 0, 1, 0, 2));
        Check.due("7 just where it lies", 0, () -> Rooms.fits(slant, 0, 0, 0, 0));
        slant.take(0);
        Check.due("7 where one lay that is gone", 1, () -> Rooms.fits(slant, 0, 0, 0, 0));
    }

    /**
     * "Whether a kind fits (rims may touch)": slants at the least distance from a corner of the
     * hide, of a zone and of a part, in all turns of all of them.
     */
    private static void fitsTouchingInAllTurns() {
        for (int t = 0; t < 4; t++) {
            for (int[] thorn : Rooms.everyStart(
                    0, 0, 30, 0, 30, 30, 16, 30, 15, 15, 14, 30, 0, 30)) {
                Story hide = Rooms.offered(turned(t, thorn)).then(LeatherRoom::hide);
                slantsAtCorner("a thorn of the hide", t, hide);
            }
            slantsAtCorner("a zone", t, zoneAtCorner(t));
            slantsAtCorner("a part", t, partAtCorner(t));
        }
    }

    private static Story zoneAtCorner(int t) {
        return room -> {
            Rooms.hide(room, Rooms.BIG);
            Rooms.zone(room, 3, turned(t, 15, 15, 17, 15, 17, 17, 15, 17));
        };
    }

    private static Story partAtCorner(int t) {
        return room -> {
            Rooms.hide(room, Rooms.BIG);
            Rooms.kind(room, 1, 15, 0, 0, 2, 0, 2, 2, 0, 2);
            int[] at = turnedPlace(t, 15, 15, 2, 2);
            room.put(0, at[0], at[1], t);
        };
    }

    /** Two slants, from each of their corners on, at the point (15, 15), or nearly so. */
    private static void slantsAtCorner(String name, int t, Story obstacle) {
        int[][] even = {{9, 9, 1}, {8, 9, 1}, {9, 8, 1}, {10, 9, 0}, {9, 10, 0}, {3, 15, 1},
            {15, 3, 1}, {4, 15, 0}, {15, 4, 0}};
        for (int[] kind : Rooms.everyStart(0, 0, 12, 0, 0, 12)) {
            LeatherRoom room = obstacle.told();
            int number = Rooms.kind(room, 4, 15, kind);
            answersAt("7 even slant at " + name, t, room, number, 12, even);
        }
        int[][] uneven = {{4, 14, 1}, {14, 5, 0}, {3, 15, 1}, {15, 4, 1}, {4, 15, 0}, {15, 5, 0}};
        for (int[] kind : Rooms.everyStart(0, 0, 12, 0, 0, 11)) {
            LeatherRoom room = obstacle.told();
            int number = Rooms.kind(room, 4, 15, kind);
            answersAt("7 uneven slant at " + name, t, room, number, 11, uneven);
        }
    }

    /** Whether a kind, 12 wide, fits at places that are turned with all else. */
    private static void answersAt(String name, int t, LeatherRoom room, int kind, int height,
            int[][] places) {
        for (int[] p : places) {
            int[] at = turnedPlace(t, p[0], p[1], 12, height);
            Check.due(name + ", " + p[0] + " " + p[1] + " in turn " + t, p[2],
                    () -> Rooms.fits(room, kind, at[0], at[1], t));
        }
    }

    /** Corners after t turns of the whole lattice. */
    private static int[] turned(int t, int... corners) {
        int[] other = corners.clone();
        for (int i = 0; i < t; i++) {
            for (int k = 0; k < other.length; k += 2) {
                int x = other[k];
                other[k] = 30 - other[k + 1];
                other[k + 1] = x;
            }
        }
        return other;
    }

    /** Where a piece of a width and height is after t turns of the whole lattice. */
    private static int[] turnedPlace(int t, int x, int y, int w, int h) {
        int[] ends = turned(t, x, y, x + w, y + h);
        return new int[] {Math.min(ends[0], ends[2]), Math.min(ends[1], ends[3])};
    }

    /** "(false for one that is not of its turns)". */
    private static void fitsOnlyInItsTurns() {
        LeatherRoom room = Rooms.withHide(Rooms.BIG);
        for (int k = 0; k < 4; k++) {
            Rooms.kind(room, 1, 1 << k, Rooms.SQUARE);
        }
        Rooms.kind(room, 1, 15, Rooms.SQUARE);
        for (int t = 0; t < 4; t++) {
            int turn = t;
            for (int k = 0; k < 4; k++) {
                int number = k;
                Check.due("7 turn " + turn + " of " + (1 << k), turn == number ? 1 : 0,
                        () -> Rooms.fits(room, number, 5, 5, turn));
            }
            Check.due("7 turn " + turn + " of 15", 1, () -> Rooms.fits(room, 4, 5, 5, turn));
        }
    }

    /** "Illegal argument: there is no such kind". */
    private static void fitsNoSuchKind() {
        for (Story before : ANY) {
            for (int kind : NO_KIND) {
                Refused.andAllStays("7 kind " + kind, Rooms.ARGUMENT, before,
                        room -> room.fits(kind, 5, 5, 0));
            }
        }
        for (int count = 1; count <= 6; count++) {
            LeatherRoom room = Rooms.withHide(Rooms.BIG);
            for (int k = 0; k < count; k++) {
                Rooms.kind(room, 1, 1, Rooms.SQUARE);
            }
            int kinds = count;
            Check.due("7 the first kind", 1, () -> Rooms.fits(room, 0, 5, 5, 0));
            Check.due("7 the last kind", 1, () -> Rooms.fits(room, kinds - 1, 5, 5, 0));
            Check.refused("7 the next kind", Rooms.ARGUMENT,
                    () -> Rooms.fits(room, kinds, 5, 5, 0));
        }
    }

    /** "x or y is not 0 .. 30". */
    private static void fitsNoSuchPoint() {
        for (int bad : NO_COORDINATE) {
            Refused.andAllStays("7 x " + bad, Rooms.ARGUMENT, IN_USE,
                    room -> room.fits(0, bad, 5, 0));
            Refused.andAllStays("7 y " + bad, Rooms.ARGUMENT, IN_USE,
                    room -> room.fits(0, 5, bad, 0));
            Refused.andAllStays("7 both " + bad, Rooms.ARGUMENT, IN_USE,
                    room -> room.fits(0, bad, bad, 0));
        }
        LeatherRoom room = Rooms.withHide(Rooms.BIG);
        Rooms.kind(room, 1, 1, Rooms.SQUARE);
        Check.due("7 x and y 0", 1, () -> Rooms.fits(room, 0, 0, 0, 0));
        Check.due("7 x 30", 0, () -> Rooms.fits(room, 0, 30, 0, 0));
        Check.due("7 y 30", 0, () -> Rooms.fits(room, 0, 0, 30, 0));
        Check.due("7 x and y 30", 0, () -> Rooms.fits(room, 0, 30, 30, 0));
    }

    /** "or turn not 0 .. 3". */
    private static void fitsNoSuchTurn() {
        for (int bad : NO_TURN) {
            Refused.andAllStays("7 turn " + bad, Rooms.ARGUMENT, IN_USE,
                    room -> room.fits(0, 5, 5, bad));
            Refused.andAllStays("7 turn " + bad + " where nothing fits", Rooms.ARGUMENT, IN_USE,
                    room -> room.fits(0, 30, 30, bad));
        }
        LeatherRoom room = Rooms.withHide(Rooms.BIG);
        Rooms.kind(room, 1, 9, Rooms.SQUARE);
        Check.due("7 turn 0", 1, () -> Rooms.fits(room, 0, 5, 5, 0));
        Check.due("7 turn 3", 1, () -> Rooms.fits(room, 0, 5, 5, 3));
    }

    /** Promises 7, 8, 13, 14 and 15 tell of no change. */
    private static void fitsChangesNothing() {
        for (Story before : ANY) {
            Probe.alike("7 asking changes nothing", before, before.then(room -> {
                Check.outcome(() -> Rooms.fits(room, 0, 10, 10, 0));
                Check.outcome(() -> Rooms.fits(room, 1, 3, 2, 1));
                Check.outcome(() -> room.best(0));
                Check.outcome(() -> room.best(2));
                Check.outcome(() -> room.part(0, 3));
                room.parts();
                room.free();
            }));
        }
    }

    /** "The best place of a kind (also when 12 parts lie there)". */
    private static void bestWithTwelve() {
        LeatherRoom room = Rooms.withHide(0, 0, 13, 0, 13, 1, 0, 1);
        Rooms.kind(room, 1, 1, Rooms.SQUARE);
        Rooms.kind(room, 1, 1, 0, 0, 2, 0, 0, 1);
        for (int i = 0; i < 12; i++) {
            int x = i;
            Check.due("8 best of the rest", x, () -> room.best(0));
            room.lay(0);
        }
        Check.due("8 with twelve", 12, () -> room.best(0));
        Check.refused("8 with twelve, and no room", Rooms.ELEMENT, () -> room.best(1));
    }

    /** "as x + 32 y + 1024 turn". */
    private static void bestAsNumber() {
        int[][] places = {{0, 0}, {29, 0}, {0, 29}, {29, 29}, {1, 1}, {16, 15}};
        for (int[] at : places) {
            for (int t = 0; t < 4; t++) {
                int turn = t;
                int x = at[0];
                int y = at[1];
                LeatherRoom room = Rooms.withHide(x, y, x + 1, y, x + 1, y + 1, x, y + 1);
                Rooms.kind(room, 4, 1 << t, Rooms.SQUARE);
                Check.due("8 the only place", x + 32 * y + 1024 * turn, () -> room.best(0));
                Check.due("8 laid there", 0, () -> room.lay(0));
                Check.due("8 x", x, () -> room.part(0, 1));
                Check.due("8 y", y, () -> room.part(0, 2));
                Check.due("8 turn", turn, () -> room.part(0, 3));
            }
        }
    }

    /** "Illegal argument: there is no such kind". */
    private static void bestNoSuchKind() {
        for (Story before : ANY) {
            for (int kind : NO_KIND) {
                Refused.andAllStays("8 kind " + kind, Rooms.ARGUMENT, before,
                        room -> room.best(kind));
            }
        }
        LeatherRoom room = sixKinds(Rooms.BIG);
        Check.due("8 the last of six", 0, () -> room.best(5));
        Check.refused("8 no seventh", Rooms.ARGUMENT, () -> room.best(6));
    }

    private static LeatherRoom sixKinds(int... hide) {
        LeatherRoom room = Rooms.withHide(hide);
        for (int k = 0; k < 6; k++) {
            Rooms.kind(room, 1, 1, Rooms.SQUARE);
        }
        return room;
    }

    /** "no such element: it fits nowhere". */
    private static void bestNowhere() {
        Story tight = room -> {
            Rooms.hide(room, 3, 3, 8, 3, 8, 7, 3, 7);
            Rooms.kind(room, 1, 1, 0, 0, 5, 0, 5, 4, 0, 4);
            Rooms.kind(room, 1, 15, 0, 0, 5, 0, 5, 5, 0, 5);
            Rooms.kind(room, 1, 2, 0, 0, 5, 0, 5, 4, 0, 4);
            WAITS.tell(room);
        };
        Check.due("8 just one place", 3 + 32 * 3, () -> tight.told().best(0));
        Refused.andAllStays("8 one too high", Rooms.ELEMENT, tight, room -> room.best(1));
        Refused.andAllStays("8 only in another turn", Rooms.ELEMENT, tight,
                room -> room.best(2));
        Story taken = tight.then(room -> room.lay(0));
        Refused.andAllStays("8 the place is taken", Rooms.ELEMENT, taken, room -> room.best(0));
        Story spoilt = room -> {
            Rooms.hide(room, 3, 3, 8, 3, 8, 7, 3, 7);
            Rooms.zone(room, 3, 4, 4, 5, 4, 4, 5);
            Rooms.kind(room, 3, 1, 0, 0, 5, 0, 5, 4, 0, 4);
            Rooms.kind(room, 4, 1, 0, 0, 5, 0, 5, 4, 0, 4);
        };
        Check.due("8 the zone is good enough", 3 + 32 * 3, () -> spoilt.told().best(0));
        Refused.andAllStays("8 the zone is in the way", Rooms.ELEMENT, spoilt,
                room -> room.best(1));
    }

    /** "Lays a part of a kind at its best place: its number". */
    private static void layNumbers() {
        LeatherRoom room = Rooms.withHide(Rooms.BIG);
        Rooms.kind(room, 1, 15, Rooms.TRIANGLE);
        for (int i = 0; i < 12; i++) {
            int number = i;
            int place = room.best(0);
            Check.due("9 its number", number, () -> room.lay(0));
            Check.due("9 its kind", 0, () -> room.part(number, 0));
            Check.due("9 at the best place", place, () -> room.part(number, 1)
                    + 32 * room.part(number, 2) + 1024 * room.part(number, 3));
        }
        Probe.alike("9 as if put there", Rooms.FURNISHED.then(r -> {
            int place = r.best(1);
            r.put(1, place % 32, place / 32 % 32, place / 1024);
        }), Rooms.FURNISHED.then(r -> r.lay(1)));
    }

    /** "Illegal argument: there is no such kind". */
    private static void layNoSuchKind() {
        for (Story before : ANY) {
            for (int kind : NO_KIND) {
                Refused.andAllStays("9 kind " + kind, Rooms.ARGUMENT, before,
                        room -> room.lay(kind));
            }
        }
        LeatherRoom room = sixKinds(Rooms.BIG);
        Check.due("9 the last of six", 0, () -> room.lay(5));
        Check.refused("9 no seventh", Rooms.ARGUMENT, () -> room.lay(6));
    }

    /** "illegal state: there are 12 parts". */
    private static void layWithTwelve() {
        for (int k = 0; k < 3; k++) {
            int kind = k;
            Refused.andAllStays("9 twelve lie there", Rooms.STATE, FULL, room -> room.lay(kind));
        }
        LeatherRoom room = FULL.told();
        room.take(11);
        Check.due("9 the twelfth", 11, () -> room.lay(0));
        Check.refused("9 the thirteenth", Rooms.STATE, () -> room.lay(0));
        LeatherRoom tight = Rooms.withHide(0, 0, 12, 0, 12, 1, 0, 1);
        Rooms.kind(tight, 1, 1, Rooms.SQUARE);
        for (int i = 0; i < 12; i++) {
            int number = i;
            Check.due("9 the last place too", number, () -> tight.lay(0));
        }
        Check.refused("9 no number is told before no place", Rooms.STATE, () -> tight.lay(0));
        tight.take(4);
        Rooms.kind(tight, 1, 1, 0, 0, 2, 0, 0, 1);
        Check.refused("9 a number, but no place", Rooms.ELEMENT, () -> tight.lay(1));
    }

    /** "no such element: it fits nowhere". */
    private static void layNowhere() {
        Story tight = room -> {
            Rooms.hide(room, 3, 3, 8, 3, 8, 7, 3, 7);
            Rooms.kind(room, 1, 1, 0, 0, 5, 0, 5, 4, 0, 4);
            Rooms.kind(room, 1, 15, 0, 0, 5, 0, 5, 5, 0, 5);
            WAITS.tell(room);
        };
        Refused.andAllStays("9 one too high", Rooms.ELEMENT, tight, room -> room.lay(1));
        Check.due("9 just one place", 0, () -> tight.told().lay(0));
        Refused.andAllStays("9 the place is taken", Rooms.ELEMENT,
                tight.then(room -> room.lay(0)), room -> room.lay(0));
    }

    /** "Lays a part of a kind at a point in a turn: its number". */
    private static void putNumbers() {
        LeatherRoom room = Rooms.withHide(Rooms.BIG);
        Rooms.kind(room, 1, 15, Rooms.SQUARE);
        Rooms.kind(room, 4, 15, Rooms.SQUARE);
        for (int i = 0; i < 12; i++) {
            int number = i;
            int[] want = {i % 2, 29 - i, 2 * i, i % 4};
            Check.due("10 its number", number, () -> room.put(want[0], want[1], want[2], want[3]));
            for (int w = 0; w < 4; w++) {
                int what = w;
                Check.due("10 as it was put, " + what, want[what], () -> room.part(number, what));
            }
        }
    }

    /** "Illegal argument: there is no such kind, x or y is not 0 .. 30, or turn not 0 .. 3". */
    private static void putNoSuchPlace() {
        for (Story before : ANY) {
            for (int kind : NO_KIND) {
                Refused.andAllStays("10 kind " + kind, Rooms.ARGUMENT, before,
                        room -> room.put(kind, 22, 23, 0));
            }
            for (int bad : NO_COORDINATE) {
                Refused.andAllStays("10 x " + bad, Rooms.ARGUMENT, before,
                        room -> room.put(0, bad, 23, 0));
                Refused.andAllStays("10 y " + bad, Rooms.ARGUMENT, before,
                        room -> room.put(0, 22, bad, 0));
            }
            for (int bad : NO_TURN) {
                Refused.andAllStays("10 turn " + bad, Rooms.ARGUMENT, before,
                        room -> room.put(0, 22, 23, bad));
            }
        }
        LeatherRoom room = sixKinds(Rooms.BIG);
        Check.due("10 the last of six", 0, () -> room.put(5, 0, 0, 0));
        Check.refused("10 no seventh", Rooms.ARGUMENT, () -> room.put(6, 5, 5, 0));
        Check.refused("10 x 30 is a point", Rooms.OPERATION, () -> room.put(0, 30, 0, 0));
        Check.refused("10 y 30 is a point", Rooms.OPERATION, () -> room.put(0, 0, 30, 0));
        Check.refused("10 turn 3 is a turn", Rooms.OPERATION, () -> room.put(0, 5, 5, 3));
    }

    /** "illegal state: there are 12 parts". */
    private static void putWithTwelve() {
        Check.due("10 there would be room", 1, () -> Rooms.fits(FULL.told(), 0, 22, 23, 0));
        Refused.andAllStays("10 twelve lie there", Rooms.STATE, FULL,
                room -> room.put(0, 22, 23, 0));
        Refused.andAllStays("10 twelve lie there, and it does not fit", Rooms.STATE, FULL,
                room -> room.put(0, 30, 30, 0));
        LeatherRoom room = FULL.told();
        room.take(0);
        Check.due("10 the twelfth", 0, () -> room.put(0, 22, 23, 0));
        Check.refused("10 the thirteenth", Rooms.STATE, () -> room.put(0, 22, 26, 0));
    }

    /** "unsupported operation: it does not fit". */
    private static void putNotFitting() {
        Story before = room -> {
            Rooms.hide(room, 0, 0, 20, 0, 20, 20, 0, 20);
            Rooms.zone(room, 2, 10, 10, 15, 10, 15, 15, 10, 15);
            Rooms.kind(room, 3, 5, 0, 0, 2, 0, 2, 2, 0, 2);
            Rooms.kind(room, 2, 15, 0, 0, 2, 0, 2, 2, 0, 2);
            room.put(0, 4, 4, 0);
            WAITS.tell(room);
        };
        int[][] bad = {{0, 19, 0, 0}, {0, 0, 19, 0}, {0, 30, 30, 0}, {0, 5, 5, 0}, {0, 2, 3, 1},
            {0, 9, 9, 0}, {0, 14, 14, 2}, {1, 5, 5, 3}, {0, 0, 0, 3}};
        for (int[] at : bad) {
            Refused.andAllStays("10 does not fit", Rooms.OPERATION, before,
                    room -> room.put(at[0], at[1], at[2], at[3]));
        }
        int[][] good = {{0, 18, 0, 0}, {0, 0, 18, 0}, {0, 6, 5, 0}, {0, 2, 3, 2}, {0, 8, 9, 0},
            {0, 15, 14, 2}, {1, 9, 9, 0}, {1, 6, 6, 3}, {0, 0, 0, 2}};
        for (int[] at : good) {
            Check.due("10 fits", 1,
                    () -> before.told().put(at[0], at[1], at[2], at[3]));
        }
    }

    /** "Takes a part away: its kind". */
    private static void takeAway() {
        for (int i = 0; i < 12; i++) {
            int number = i;
            LeatherRoom room = FULL.told();
            Check.due("11 its kind", number % 3, () -> room.take(number));
            Check.due("11 one less", 11, room::parts);
            Check.refused("11 it is gone", Rooms.ELEMENT, () -> room.part(number, 0));
            Check.refused("11 only once", Rooms.ELEMENT, () -> room.take(number));
        }
        Probe.alike("11 as if never laid", Rooms.FURNISHED.then(WAITS),
                Rooms.FURNISHED.then(WAITS).then(room -> {
                    room.lay(1);
                    room.lay(2);
                    room.take(0);
                    room.take(1);
                }));
        Probe.alike("11 the others keep their numbers and places", IN_USE, IN_USE.then(room -> {
            room.lay(0);
            room.take(1);
        }));
    }

    /** "No such element: there is none with the number". */
    private static void takeNone() {
        for (Story before : ANY) {
            for (int part : NO_PART) {
                Refused.andAllStays("11 part " + part, Rooms.ELEMENT, before,
                        room -> room.take(part));
            }
        }
        Refused.andAllStays("11 a number between", Rooms.ELEMENT, IN_USE, room -> room.take(1));
        Refused.andAllStays("11 the number behind", Rooms.ELEMENT, IN_USE, room -> room.take(5));
        Refused.andAllStays("11 none at all", Rooms.ELEMENT, Rooms.FURNISHED,
                room -> room.take(0));
        Check.due("11 the first", 0, () -> FULL.told().take(0));
        Check.due("11 the last", 2, () -> FULL.told().take(11));
    }

    /** "Takes all parts away: how many they were". */
    private static void stripAll() {
        Story bare = Rooms.FURNISHED.then(WAITS);
        for (int i = 0; i <= 12; i++) {
            int count = i;
            Story laid = bare.then(room -> {
                for (int k = 0; k < count; k++) {
                    room.lay(k % 3);
                }
            });
            Check.due("12 how many", count, () -> laid.told().strip());
            Probe.alike("12 strip of " + count, bare, laid.then(LeatherRoom::strip));
        }
        Check.due("12 not those that were taken", 4, () -> IN_USE.told().strip());
        LeatherRoom room = FULL.told();
        room.strip();
        Check.due("12 then none", 0, room::strip);
    }

    /** "Of a part: what = 0: its kind, 1: x, 2: y, 3: its turn". */
    private static void partTells() {
        LeatherRoom room = sixKinds(Rooms.BIG);
        Check.due("13 put", 0, () -> room.put(5, 29, 28, 0));
        int[] want = {5, 29, 28, 0};
        for (int w = 0; w < 4; w++) {
            int what = w;
            Check.due("13 what " + what, want[what], () -> room.part(0, what));
        }
        LeatherRoom turned = Rooms.withHide(Rooms.BIG);
        Rooms.kind(turned, 1, 8, Rooms.SQUARE);
        turned.put(0, 0, 7, 3);
        int[] then = {0, 0, 7, 3};
        for (int w = 0; w < 4; w++) {
            int what = w;
            Check.due("13 what " + what, then[what], () -> turned.part(0, what));
        }
    }

    /** "Illegal argument: what is none of these". */
    private static void partNoSuchWhat() {
        int[] bad = {-1, 4, 5, LEAST, MOST};
        for (int what : bad) {
            Refused.andAllStays("13 what " + what, Rooms.ARGUMENT, IN_USE,
                    room -> room.part(0, what));
            Refused.andAllStays("13 what " + what + " of no part", Rooms.ARGUMENT, IN_USE,
                    room -> room.part(1, what));
        }
    }

    /** "no such element: there is none with the number". */
    private static void partNone() {
        for (int w = 0; w < 4; w++) {
            int what = w;
            for (Story before : ANY) {
                for (int part : NO_PART) {
                    Refused.andAllStays("13 part " + part, Rooms.ELEMENT, before,
                            room -> room.part(part, what));
                }
            }
            Refused.andAllStays("13 a number between", Rooms.ELEMENT, IN_USE,
                    room -> room.part(1, what));
            Refused.andAllStays("13 the number behind", Rooms.ELEMENT, IN_USE,
                    room -> room.part(5, what));
        }
        Check.due("13 the first", 0, () -> FULL.told().part(0, 0));
        Check.due("13 the last", 2, () -> FULL.told().part(11, 0));
    }

    /** "How many parts lie there". */
    private static void partsCounted() {
        LeatherRoom room = Rooms.FURNISHED.told();
        for (int i = 0; i < 12; i++) {
            int count = i;
            Check.due("14 before", count, room::parts);
            Check.refused("14 no part more", Rooms.OPERATION, () -> room.put(0, 30, 30, 0));
            room.lay(i % 3);
        }
        Check.due("14 twelve", 12, room::parts);
        Check.refused("14 no thirteenth", Rooms.STATE, () -> room.lay(0));
        Check.due("14 still twelve", 12, room::parts);
        for (int i = 11; i >= 0; i--) {
            int count = i;
            room.take(i);
            Check.due("14 after", count, room::parts);
            Check.refused("14 no part less", Rooms.ELEMENT, () -> room.take(count));
        }
        Check.due("14 none", 0, room::parts);
    }

    /** "Twice the area of the hide (0 without one)". */
    private static void freeWithoutHide() {
        LeatherRoom room = new LeatherRoom();
        Check.due("15 new", 0, room::free);
        Rooms.kind(room, 1, 1, Rooms.TRIANGLE);
        Rooms.zone(room, 1, Rooms.BIG);
        Check.due("15 zones and kinds are no hide", 0, room::free);
        Rooms.offer(room, Rooms.BIG);
        Check.due("15 corners that wait are none", 0, room::free);
        room.hide();
        Check.due("15 they are now", 1800, room::free);
        Check.refused("15 not these", Rooms.ARGUMENT, () -> Rooms.hide(room, 0, 0, 9, 9));
        Check.due("15 the one before", 1800, room::free);
    }

    /** "Twice the area of the hide": the least, the most, and either way round. */
    private static void freeOfHide() {
        for (int[] hide : Rooms.everyStart(0, 0, 30, 29, 29, 28)) {
            Check.due("15 the least", 1, () -> Rooms.withHide(hide).free());
        }
        for (int[] hide : Rooms.everyStart(Rooms.BIG)) {
            Check.due("15 the most", 1800, () -> Rooms.withHide(hide).free());
        }
        for (int[] hide : Rooms.everyStart(30, 29, 29, 30, 28, 28)) {
            Check.due("15 an odd number", 3, () -> Rooms.withHide(hide).free());
        }
    }

    /** "less twice that of all parts". */
    private static void freeLessParts() {
        for (int[] corners : Rooms.everyStart(0, 0, 12, 0, 12, 12, 0, 12)) {
            LeatherRoom room = Rooms.withHide(0, 0, 24, 0, 24, 12, 0, 12);
            Rooms.kind(room, 1, 15, corners);
            Check.due("15 no part", 576, room::free);
            room.lay(0);
            Check.due("15 one part", 288, room::free);
            room.lay(0);
            Check.due("15 all is covered", 0, room::free);
            Check.refused("15 no third", Rooms.ELEMENT, () -> room.lay(0));
            Check.due("15 still all", 0, room::free);
            room.take(0);
            Check.due("15 one taken", 288, room::free);
            room.strip();
            Check.due("15 all taken", 576, room::free);
        }
        LeatherRoom small = Rooms.withHide(Rooms.BIG);
        Rooms.kind(small, 1, 15, 0, 0, 1, 0, 0, 1);
        for (int i = 0; i < 12; i++) {
            int left = 1800 - i;
            Check.due("15 less one each", left, small::free);
            small.lay(0);
        }
        Check.due("15 less twelve", 1788, small::free);
        for (int[] corners : Rooms.everyStart(1, 0, 4, 1, 5, 5, 0, 3)) {
            for (int t = 0; t < 4; t++) {
                LeatherRoom room = Rooms.withHide(Rooms.BIG);
                Rooms.kind(room, 1, 1 << t, corners);
                room.lay(0);
                Check.due("15 in any turn", 1800 - 28, room::free);
            }
        }
    }
}
