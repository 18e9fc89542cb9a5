/**
 * The sentences of "What it is" and "Terms" that name a boundary case, each with a test of its own
 * that quotes it.
 */
public final class BoundariesOfTerms {
    private BoundariesOfTerms() {
    }

    public static void main(String[] args) {
        lastCall();
        closingSide();
        sidesThatFollow();
        otherSides();
        fewestAndMostCornersOfHide();
        insideWithoutRim();
        roundBesideTheLine();
        roundOnOneSide();
        zoneLimits();
        kindLimits();
        turnsOfKinds();
        movedToLeast();
        partNumbers();
        partPoints();
        gradesBelow();
        bestPlaceOrder();
        Check.end();
    }

    /** "An object is used for at most 512 calls after it has been made". */
    private static void lastCall() {
        LeatherRoom room = Rooms.withHide(Rooms.BIG);
        Rooms.kind(room, 1, 15, Rooms.TRIANGLE);
        int calls = 9;
        while (calls + 14 <= 512) {
            for (int i = 0; i < 12; i++) {
                int number = i;
                Check.due("0 lay", number, () -> room.lay(0));
            }
            Check.due("0 free with twelve", 1500, room::free);
            Check.due("0 strip", 12, room::strip);
            calls += 14;
        }
        while (calls < 511) {
            Check.due("0 best", 0, () -> room.best(0));
            calls++;
        }
        Check.due("0 the 512th call", 0, () -> room.lay(0));
    }

    /** "SIDES, from each corner straight to the next one and from the last one to the first". */
    private static void closingSide() {
        for (int[] hide : Rooms.everyStart(0, 0, 30, 0, 20, 10, 30, 30, 0, 20)) {
            LeatherRoom room = Rooms.withHide(hide);
            Rooms.kind(room, 4, 1, 0, 0, 4, 0, 4, 4, 0, 4);
            Check.due("T area with every side", 1200, room::free);
            Check.due("T beside the upright side", 1, () -> Rooms.fits(room, 0, 0, 10, 0));
            Check.due("T beside the bend", 1, () -> Rooms.fits(room, 0, 16, 10, 0));
            Check.due("T beyond the bend", 0, () -> Rooms.fits(room, 0, 17, 10, 0));
            Check.due("T below the upper side", 1, () -> Rooms.fits(room, 0, 3, 17, 0));
            Check.due("T through the upper side", 0, () -> Rooms.fits(room, 0, 2, 17, 0));
        }
        for (int[] zone : Rooms.everyStart(10, 10, 20, 10, 20, 20)) {
            LeatherRoom room = Rooms.withHide(Rooms.BIG);
            Rooms.kind(room, 4, 1, Rooms.SQUARE);
            Rooms.zone(room, 3, zone);
            Check.due("T on a zone's slant", 1, () -> Rooms.fits(room, 0, 14, 15, 0));
            Check.due("T over a zone's slant", 0, () -> Rooms.fits(room, 0, 14, 14, 0));
            Check.due("T below a zone", 1, () -> Rooms.fits(room, 0, 15, 9, 0));
            Check.due("T right of a zone", 1, () -> Rooms.fits(room, 0, 20, 15, 0));
            Check.due("T in a zone's right end", 0, () -> Rooms.fits(room, 0, 19, 15, 0));
        }
    }

    /** "PLAIN if two sides that follow one another have only the corner between them in common". */
    private static void sidesThatFollow() {
        plain("straight on", 100, 0, 0, 5, 0, 10, 0, 0, 10);
        notPlain("back along the side before", 0, 0, 10, 0, 5, 0, 0, 10);
        notPlain("back along it by one", 0, 0, 10, 0, 9, 0, 0, 10);
        plain("nearly back along it", 20, 0, 0, 10, 0, 1, 1, 0, 10);
        notPlain("back along all of it", 0, 0, 10, 0, 0, 0, 0, 10);
        notPlain("back beyond its begin", 4, 0, 10, 0, 0, 0, 4, 8);
        notPlain("back on a slant", 0, 0, 9, 6, 6, 4, 0, 9);
        plain("straight on, upright", 50, 5, 10, 5, 15, 5, 20, 0, 12);
        notPlain("back upright", 5, 10, 5, 20, 5, 15, 0, 12);
        plain("straight on, falling", 8 * 15, 10, 20, 14, 17, 18, 14, 18, 29);
        notPlain("back, falling", 10, 20, 18, 14, 14, 17, 18, 29);
        plain("straight on, on a slant", 81, 0, 0, 6, 4, 9, 6, 0, 9);
        plain("a triangle of the least area", 1, 0, 0, 30, 29, 29, 28);
        notPlain("three in a line", 0, 0, 10, 10, 30, 30);
        notPlain("a corner twice, one after the other", 0, 0, 0, 0, 10, 10, 0, 10);
        notPlain("a corner twice of three", 0, 0, 0, 0, 10, 10);
    }

    /** "and other two sides nothing". */
    private static void otherSides() {
        notPlain("they cross at a corner of the lattice", 0, 0, 10, 10, 10, 0, 0, 10);
        notPlain("they cross between the lattice's points", 0, 0, 7, 5, 7, 2, 0, 3);
        notPlain("a corner is on a side", 0, 0, 20, 0, 20, 10, 10, 0, 0, 10);
        plain("a corner is one off a side", 220, 0, 0, 20, 0, 20, 10, 10, 1, 0, 10);
        notPlain("a corner is one beyond a side", 0, 1, 20, 1, 20, 10, 10, 0, 0, 10);
        notPlain("a corner is on a slant side", 0, 0, 30, 30, 30, 0, 29, 29, 28, 0);
        plain("a corner is as near to a slant side as can be", 30 * 29 - 2 * 28,
                0, 0, 30, 29, 30, 0, 29, 28, 28, 0);
        notPlain("a corner is on a corner", 5, 5, 0, 0, 10, 0, 5, 5, 10, 10, 0, 10);
        plain("a corner is beside a corner", 110, 5, 6, 0, 0, 10, 0, 5, 5, 10, 11, 0, 11);
        notPlain("they share a stretch", 0, 0, 9, 0, 9, 9, 3, 9, 3, 0, 6, 0, 6, 5, 0, 5);
        notPlain("on one line, end to end",
                0, 0, 20, 0, 20, 10, 10, 10, 15, 5, 5, 5, 10, 10, 0, 10);
        plain("on one line, one apart", 400 - 55,
                0, 0, 20, 0, 20, 10, 11, 10, 15, 5, 5, 5, 10, 10, 0, 10);
        plain("on one upright line, one apart", 400 - 55,
                0, 0, 0, 20, 10, 20, 10, 11, 5, 15, 5, 5, 10, 10, 10, 0);
        notPlain("a star of like bends", 10, 0, 16, 18, 1, 7, 19, 7, 4, 18);
    }

    /** "THE HIDE is a plain shape of 3 to 12 corners", "Their coordinates are 0 .. 30". */
    private static void fewestAndMostCornersOfHide() {
        notPlain("no corners");
        notPlain("one corner", 0, 0);
        notPlain("two corners", 0, 0, 30, 30);
        plain("three corners", 900, 0, 0, 30, 0, 0, 30);
        plain("twelve corners", 1000, 10, 0, 20, 0, 20, 10, 30, 10, 30, 20, 20, 20,
                20, 30, 10, 30, 10, 20, 0, 20, 0, 10, 10, 10);
        notPlain("twelve corners, two of them one point", 10, 0, 20, 0, 20, 10, 30, 10, 30, 20,
                20, 20, 20, 30, 10, 30, 10, 20, 0, 20, 20, 10, 10, 10);
        plain("from end to end of the lattice", 1800, Rooms.BIG);
    }

    private static void plain(String name, int doubleArea, int... corners) {
        for (int[] start : Rooms.everyStart(corners)) {
            LeatherRoom room = new LeatherRoom();
            Check.due("T plain: " + name, 0, () -> Rooms.hide(room, start));
            Check.due("T area: " + name, doubleArea, room::free);
        }
    }

    private static void notPlain(String name, int... corners) {
        Check.refused("T not plain: " + name, Rooms.ARGUMENT,
                () -> Rooms.hide(new LeatherRoom(), corners));
        for (int[] start : Rooms.everyStart(corners)) {
            Check.refused("T not plain from any start: " + name, Rooms.ARGUMENT,
                    () -> Rooms.hide(new LeatherRoom(), start));
        }
    }

    /** "INSIDE .. is all points that the rim parts from what is far away, without the rim". */
    private static void insideWithoutRim() {
        LeatherRoom room = Rooms.withHide(5, 5, 15, 5, 15, 15, 5, 15);
        Rooms.kind(room, 1, 1, 0, 0, 10, 0, 10, 10, 0, 10);
        Rooms.kind(room, 1, 1, 0, 0, 11, 0, 11, 10, 0, 10);
        Rooms.kind(room, 1, 1, 0, 0, 10, 0, 10, 11, 0, 11);
        Check.due("T all that is inside, and no more", 1, () -> Rooms.fits(room, 0, 5, 5, 0));
        Check.due("T one more in x", 0, () -> Rooms.fits(room, 1, 5, 5, 0));
        Check.due("T one more in y", 0, () -> Rooms.fits(room, 2, 5, 5, 0));
        Check.due("T one left", 0, () -> Rooms.fits(room, 0, 4, 5, 0));
        Check.due("T one right", 0, () -> Rooms.fits(room, 0, 6, 5, 0));
        Check.due("T one low", 0, () -> Rooms.fits(room, 0, 5, 4, 0));
        Check.due("T one high", 0, () -> Rooms.fits(room, 0, 5, 6, 0));
        // The lap's two ends leave a bay that the rim does not part from what is far away.
        LeatherRoom bay = Rooms.withHide(0, 0, 9, 0, 9, 4, 5, 4, 5, 3, 8, 3, 8, 1, 1, 1, 1, 3,
                4, 3, 4, 4, 0, 4);
        Rooms.kind(bay, 1, 1, Rooms.SQUARE);
        Check.due("T nearly surrounded is not inside", 0, () -> Rooms.fits(bay, 0, 4, 2, 0));
        Check.due("T the mouth is not inside", 0, () -> Rooms.fits(bay, 0, 4, 3, 0));
        Check.due("T one end of the lap is", 1, () -> Rooms.fits(bay, 0, 3, 3, 0));
        Check.due("T the other end of the lap is", 1, () -> Rooms.fits(bay, 0, 5, 3, 0));
    }

    /** "ROUND if for each side all corners but its own ends lie beside the straight line". */
    private static void roundBesideTheLine() {
        round("a triangle of the least area", 0, 0, 12, 11, 11, 10);
        notRound("three in a line", 0, 0, 4, 4, 12, 12);
        round("a corner one off the way", 0, 1, 5, 0, 10, 1, 5, 9);
        notRound("a corner on the straight way", 0, 1, 5, 1, 10, 1, 5, 9);
        round("six corners that bend as little as can be", 0, 0, 1, 0, 2, 1, 2, 2, 1, 2, 0, 1);
        notRound("one of six on the straight way", 0, 0, 1, 0, 2, 0, 2, 2, 1, 2, 0, 1);
        notRound("a corner on the line of a side far off", 0, 0, 4, 0, 4, 4, 8, 0);
        notRound("a corner twice, one after the other", 0, 0, 4, 0, 4, 4, 4, 4);
        notRound("a corner twice", 0, 0, 4, 0, 4, 4, 0, 0, 0, 4);
        notRound("one point", 4, 4, 4, 4, 4, 4);
    }

    /** "all on one side of it, the same (.. either will do) for all sides". */
    private static void roundOnOneSide() {
        notRound("a corner one within the way", 0, 0, 5, 1, 10, 0, 5, 9);
        notRound("a bend inwards of six corners", 0, 0, 6, 0, 6, 6, 4, 6, 3, 5, 2, 6);
        notRound("sides that cross", 0, 0, 4, 4, 4, 0, 0, 4);
        notRound("a star of like bends", 6, 0, 10, 12, 0, 4, 12, 4, 2, 12);
        notRound("twice round", 0, 0, 9, 0, 0, 9, 0, 0, 9, 0, 0, 9);
        round("a square", 0, 0, 4, 0, 4, 4, 0, 4);
    }

    private static void round(String name, int... corners) {
        for (int[] start : Rooms.everyStart(corners)) {
            LeatherRoom room = new LeatherRoom();
            Check.due("T round zone: " + name, 1, () -> Rooms.zone(room, 1, start));
            Check.due("T round kind: " + name, 0, () -> Rooms.kind(room, 1, 1, start));
        }
    }

    private static void notRound(String name, int... corners) {
        for (int[] start : Rooms.everyStart(corners)) {
            LeatherRoom room = new LeatherRoom();
            Check.refused("T not a round zone: " + name, Rooms.ARGUMENT,
                    () -> Rooms.zone(room, 1, start));
            Check.refused("T not a round kind: " + name, Rooms.ARGUMENT,
                    () -> Rooms.kind(room, 1, 1, start));
        }
    }

    /** "ZONES, at most 5, are round shapes of 3 to 6 corners .. Their coordinates are 0 .. 30". */
    private static void zoneLimits() {
        for (int[] zone : Rooms.everyStart(0, 0, 30, 0, 30, 30, 0, 30)) {
            LeatherRoom room = Rooms.withHide(Rooms.BIG);
            Check.due("T the largest zone", 1, () -> Rooms.zone(room, 1, zone));
            Rooms.kind(room, 1, 15, Rooms.SQUARE);
            Rooms.kind(room, 2, 15, Rooms.SQUARE);
            Check.due("T good enough", 0, () -> room.best(0));
            Check.refused("T not good enough anywhere", Rooms.ELEMENT, () -> room.best(1));
        }
        LeatherRoom ends = Rooms.withHide(Rooms.BIG);
        Rooms.kind(ends, 2, 1, Rooms.SQUARE);
        Rooms.zone(ends, 1, 0, 0, 1, 0, 1, 1, 0, 1);
        Rooms.zone(ends, 1, 29, 29, 30, 29, 30, 30, 29, 30);
        Check.due("T a zone at the first point", 0, () -> Rooms.fits(ends, 0, 0, 0, 0));
        Check.due("T beside it", 1, () -> Rooms.fits(ends, 0, 1, 0, 0));
        Check.due("T a zone at the last point", 0, () -> Rooms.fits(ends, 0, 29, 29, 0));
        Check.due("T below it", 1, () -> Rooms.fits(ends, 0, 29, 28, 0));
    }

    /** "KINDS .., at most 6, numbered 0, 1, .. as they are made, .. coordinates 0 .. 12". */
    private static void kindLimits() {
        LeatherRoom room = Rooms.withHide(Rooms.BIG);
        int[][] sizes = {{1, 1}, {12, 1}, {1, 12}, {12, 12}, {5, 7}, {7, 5}};
        for (int k = 0; k < 6; k++) {
            int number = k;
            int w = sizes[k][0];
            int h = sizes[k][1];
            Check.due("T number", number, () -> Rooms.kind(room, 4, 1, 0, 0, w, 0, w, h, 0, h));
        }
        for (int k = 0; k < 6; k++) {
            int number = k;
            int x = 30 - sizes[k][0];
            int y = 30 - sizes[k][1];
            Check.due("T as large as told", 1, () -> Rooms.fits(room, number, x, y, 0));
            Check.due("T not less wide", 0, () -> Rooms.fits(room, number, x + 1, y, 0));
            Check.due("T not less high", 0, () -> Rooms.fits(room, number, x, y + 1, 0));
        }
    }

    /** "In turn t the corners (x, y) of a kind become (-y, x), t times". */
    private static void turnsOfKinds() {
        int[] kind = {0, 0, 12, 3, 2, 7};
        int[][] turned = {kind, {7, 0, 4, 12, 0, 2}, {12, 7, 0, 4, 10, 0}, {0, 12, 3, 0, 7, 10}};
        for (int[] start : Rooms.everyStart(kind)) {
            for (int in = 0; in < 4; in++) {
                LeatherRoom room = Rooms.withHide(turned[in]);
                Rooms.kind(room, 1, 15, start);
                Check.due("T the only place", 1024 * in, () -> room.best(0));
                for (int t = 0; t < 4; t++) {
                    int turn = t;
                    Check.due("T turn " + turn + " in the hide of " + in, turn == in ? 1 : 0,
                            () -> Rooms.fits(room, 0, 0, 0, turn));
                }
            }
        }
    }

    /** "and then all are moved alike, so that the least x and the least y are 0". */
    private static void movedToLeast() {
        int[][] places = {{0, 0}, {1, 0}, {0, 1}, {9, 10}};
        for (int[] at : places) {
            int x = at[0];
            int y = at[1];
            for (int[] kind : Rooms.everyStart(x, y, x + 3, y, x + 3, y + 2, x, y + 2)) {
                LeatherRoom room = Rooms.withHide(Rooms.BIG);
                Rooms.kind(room, 1, 15, kind);
                for (int turn = 0; turn < 4; turn++) {
                    reachesTo(room, turn, turn % 2 == 0 ? 3 : 2, turn % 2 == 0 ? 2 : 3);
                }
            }
        }
    }

    /** Kind 0 in a turn goes from 0 to the width and height, no less and no more. */
    private static void reachesTo(LeatherRoom room, int turn, int w, int h) {
        Check.due("T least x and y", 1, () -> Rooms.fits(room, 0, 0, 0, turn));
        Check.due("T most", 1, () -> Rooms.fits(room, 0, 30 - w, 30 - h, turn));
        Check.due("T x above", 0, () -> Rooms.fits(room, 0, 31 - w, 30 - h, turn));
        Check.due("T y above", 0, () -> Rooms.fits(room, 0, 30 - w, 31 - h, turn));
    }

    /** "A PART, numbered by the least number 0 .. 11 that no other part has". */
    private static void partNumbers() {
        for (int gone = 0; gone < 12; gone++) {
            LeatherRoom room = Rooms.FULL.told();
            int number = gone;
            room.take(number);
            Check.due("T the only free number, put", number, () -> room.put(0, 22, 23, 0));
            room.take(number);
            Check.due("T the only free number, laid", number, () -> room.lay(0));
            for (int low = 0; low < gone; low++) {
                int lower = low;
                LeatherRoom other = Rooms.FULL.told();
                other.take(lower);
                other.take(number);
                Check.due("T the lower of two", lower, () -> other.lay(0));
                Check.due("T then the other", number, () -> other.put(0, 22, 23, 0));
            }
        }
    }

    /** "AT a point (x, y) with coordinates 0 .. 30: its corners are .. each moved by (x, y)". */
    private static void partPoints() {
        LeatherRoom room = Rooms.withHide(Rooms.BIG);
        Rooms.kind(room, 1, 15, Rooms.SQUARE);
        int[][] points = {{0, 0}, {29, 0}, {0, 29}, {29, 29}};
        for (int i = 0; i < 4; i++) {
            int number = i;
            int x = points[i][0];
            int y = points[i][1];
            Check.due("T at an end of the lattice", number, () -> room.put(0, x, y, number));
            Check.due("T its x", x, () -> room.part(number, 1));
            Check.due("T its y", y, () -> room.part(number, 2));
            Check.due("T it lies there", 0, () -> Rooms.fits(room, 0, x, y, 0));
        }
        Check.due("T and not beside", 1, () -> Rooms.fits(room, 0, 1, 0, 0));
        Check.due("T nor above", 1, () -> Rooms.fits(room, 0, 0, 1, 0));
        Check.due("T nor below", 1, () -> Rooms.fits(room, 0, 29, 28, 0));
        Check.due("T at 30 there is no more hide in x", 0, () -> Rooms.fits(room, 0, 30, 15, 0));
        Check.due("T nor in y", 0, () -> Rooms.fits(room, 0, 15, 30, 0));
    }

    /** "none of them is inside a zone with a grade below the one that it needs". */
    private static void gradesBelow() {
        for (int needed = 1; needed <= 4; needed++) {
            for (int grade = 1; grade <= 3; grade++) {
                LeatherRoom room = Rooms.withHide(Rooms.BIG);
                Rooms.kind(room, needed, 1, Rooms.SQUARE);
                Rooms.zone(room, grade, 0, 0, 3, 0, 3, 3, 0, 3);
                int want = grade < needed ? 0 : 1;
                String name = "T needs " + needed + " in a zone of " + grade;
                Check.due(name, want, () -> Rooms.fits(room, 0, 1, 1, 0));
                Check.due(name + ", best", want == 1 ? 0 : 3, () -> room.best(0));
            }
        }
    }

    /** "that with the least y, then the least x, then the least turn". */
    private static void bestPlaceOrder() {
        // Upright pieces have room on the left, lying ones only low on the right.
        LeatherRoom low = Rooms.withHide(0, 1, 18, 1, 18, 0, 30, 0, 30, 1, 30, 13, 0, 13);
        Rooms.kind(low, 1, 3, 0, 0, 1, 0, 1, 12, 0, 12);
        Check.due("T one lower is before 18 to the left, in a lesser turn too", 18,
                () -> low.best(0));
        LeatherRoom strip = Rooms.withHide(0, 1, 18, 1, 18, 0, 30, 0, 30, 1, 30, 2, 0, 2);
        Rooms.kind(strip, 1, 3, 0, 0, 1, 0, 1, 12, 0, 12);
        Check.due("T and in a greater turn", 18 + 1024, () -> strip.best(0));
        LeatherRoom left = Rooms.withHide(0, 0, 12, 0, 12, 1, 13, 1, 13, 12, 1, 12, 1, 1, 0, 1);
        Rooms.kind(left, 1, 3, 0, 0, 1, 0, 1, 12, 0, 12);
        Check.due("T one to the left is before a lesser turn", 1024, () -> left.best(0));
        Check.due("T that would have room there", 1, () -> Rooms.fits(left, 0, 1, 0, 0));
        for (int turns = 1; turns <= 15; turns++) {
            LeatherRoom any = Rooms.withHide(Rooms.BIG);
            Rooms.kind(any, 1, turns, Rooms.SQUARE);
            int least = Integer.numberOfTrailingZeros(turns);
            Check.due("T the least turn of " + turns, 1024 * least, () -> any.best(0));
        }
    }
}
