/**
 * The sentences of promises 1 to 6 that name a boundary case, each with a test of its own that
 * quotes it: the last value that is allowed and the first that is not, the refused calls, and what
 * is as it was after them.
 */
public final class BoundariesOfShapes {
    private static final int[] NO_COORDINATE = {-1, 31, -30, 32, Integer.MIN_VALUE,
        Integer.MAX_VALUE};
    private static final int[] BOW = {0, 0, 10, 10, 10, 0, 0, 10};
    private static final int[] SIX = {2, 0, 6, 0, 8, 4, 6, 8, 2, 8, 0, 4};
    private static final int[] SEVEN = {2, 0, 6, 0, 8, 2, 8, 6, 6, 8, 2, 8, 0, 4};
    private static final int[] TWELVE = {10, 0, 20, 0, 20, 10, 30, 10, 30, 20, 20, 20,
        20, 30, 10, 30, 10, 20, 0, 20, 0, 10, 10, 10};
    /** A hide before, zones and kinds, and nothing that keeps them from being others. */
    private static final Story FURNISHED = Rooms.FURNISHED;
    private static final Story ONE_PART = FURNISHED.then(room -> room.lay(0));
    private static final Story FIVE_ZONES = FURNISHED.then(room -> {
        for (int i = 0; i < 3; i++) {
            Rooms.zone(room, 2, 10 + i, 20, 20, 20, 20, 25);
        }
    });
    private static final Story SIX_KINDS = FURNISHED.then(room -> {
        for (int i = 0; i < 3; i++) {
            Rooms.kind(room, 3, 1, 0, 0, 2, 0, 0, 2 + i);
        }
    });

    private BoundariesOfShapes() {
    }

    public static void main(String[] args) {
        newWithoutHide();
        newWithoutKinds();
        newWithoutZonesPartsAndCorners();
        cornersCounted();
        cornersInOrder();
        cornerCoordinates();
        cornerWithTwelve();
        hideInPlace();
        hideLeavesZonesAndKinds();
        hideCornersGo();
        hideWithParts();
        hideCornerCounts();
        hideNotPlain();
        zoneInHideOrNot();
        zoneGrades();
        zoneCornerCounts();
        zoneNotRound();
        zoneSixth();
        zoneWithParts();
        clearZones();
        zonesAfterClear();
        clearWithParts();
        kindGrades();
        kindTurns();
        kindCornerCounts();
        kindNotRound();
        kindCoordinates();
        kindSeventh();
        kindAtAnyTime();
        Check.end();
    }

    /** "No hide (nothing fits)". */
    private static void newWithoutHide() {
        Story small = room -> Rooms.kind(room, 1, 15, 0, 0, 1, 0, 0, 1);
        for (int y = 0; y <= 30; y++) {
            LeatherRoom room = small.told();
            for (int x = 0; x <= 30; x++) {
                for (int t = 0; t < 4; t++) {
                    int[] at = {x, y, t};
                    Check.due("1 nothing fits", 0,
                            () -> Rooms.fits(room, 0, at[0], at[1], at[2]));
                }
            }
        }
        Refused.andAllStays("1 no best place", Rooms.ELEMENT, small, room -> room.best(0));
        Refused.andAllStays("1 none to lay at", Rooms.ELEMENT, small, room -> room.lay(0));
        Refused.andAllStays("1 none to put at", Rooms.OPERATION, small,
                room -> room.put(0, 0, 0, 0));
        Check.due("1 no area", 0, () -> new LeatherRoom().free());
    }

    /** "no kinds". */
    private static void newWithoutKinds() {
        Story hide = Rooms.offered(Rooms.BIG).then(LeatherRoom::hide);
        for (Story before : new Story[] {Rooms.NEW, hide}) {
            Refused.andAllStays("1 no kind fits", Rooms.ARGUMENT, before,
                    room -> room.fits(0, 0, 0, 0));
            Refused.andAllStays("1 no kind's best", Rooms.ARGUMENT, before, room -> room.best(0));
            Refused.andAllStays("1 no kind to lay", Rooms.ARGUMENT, before, room -> room.lay(0));
            Refused.andAllStays("1 no kind to put", Rooms.ARGUMENT, before,
                    room -> room.put(0, 0, 0, 0));
            Check.due("1 the first kind", 0,
                    () -> Rooms.kind(before.told(), 1, 1, Rooms.TRIANGLE));
        }
    }

    /** "no zones", "no parts; no corner waits". */
    private static void newWithoutZonesPartsAndCorners() {
        Check.due("1 the first zone", 1,
                () -> Rooms.zone(new LeatherRoom(), 1, Rooms.TRIANGLE));
        Check.due("1 no parts", 0, () -> new LeatherRoom().parts());
        Check.due("1 none to strip", 0, () -> new LeatherRoom().strip());
        Check.due("1 the first corner", 1, () -> new LeatherRoom().corner(0, 0));
        for (int i = 0; i < 12; i++) {
            int part = i;
            Refused.andAllStays("1 no part to take", Rooms.ELEMENT, Rooms.NEW,
                    room -> room.take(part));
            Refused.andAllStays("1 no part to tell of", Rooms.ELEMENT, Rooms.NEW,
                    room -> room.part(part, 0));
        }
        Refused.andAllStays("1 no corners for a hide", Rooms.ARGUMENT, Rooms.NEW,
                LeatherRoom::hide);
        Refused.andAllStays("1 nor for a zone", Rooms.ARGUMENT, Rooms.NEW, room -> room.zone(1));
        Refused.andAllStays("1 nor for a kind", Rooms.ARGUMENT, Rooms.NEW,
                room -> room.kind(1, 1));
        Probe.alike("1 nothing to clear", Rooms.NEW, LeatherRoom::clear);
        Probe.alike("1 no object knows of another", Rooms.NEW, room -> Rooms.FULL.told());
    }

    /** "how many wait then". */
    private static void cornersCounted() {
        for (Story before : new Story[] {Rooms.NEW, FURNISHED, Rooms.FULL}) {
            LeatherRoom room = before.told();
            for (int i = 1; i <= 12; i++) {
                int count = i;
                Check.due("2 corner", count, () -> room.corner(30 - count, count));
            }
        }
    }

    /** "Puts a corner behind those that wait". */
    private static void cornersInOrder() {
        Check.due("2 in order", 0,
                () -> Rooms.hide(new LeatherRoom(), 0, 0, 10, 0, 10, 10, 0, 10));
        Check.refused("2 the last two the other way", Rooms.ARGUMENT,
                () -> Rooms.hide(new LeatherRoom(), 0, 0, 10, 0, 0, 10, 10, 10));
        LeatherRoom twelve = Rooms.withHide(TWELVE);
        Check.due("2 twelve in order", 1000, twelve::free);
    }

    /** "Illegal argument: a coordinate is not 0 .. 30". */
    private static void cornerCoordinates() {
        int[] ends = {0, 30};
        for (int x : ends) {
            for (int y : ends) {
                Check.due("2 allowed", 1, () -> new LeatherRoom().corner(x, y));
            }
        }
        for (int bad : NO_COORDINATE) {
            Story waits = FURNISHED.then(Rooms.offered(0, 0, 9, 0, 0, 9));
            Refused.andAllStays("2 x " + bad, Rooms.ARGUMENT, waits, room -> room.corner(bad, 5));
            Refused.andAllStays("2 y " + bad, Rooms.ARGUMENT, waits, room -> room.corner(5, bad));
            Refused.andAllStays("2 both " + bad, Rooms.ARGUMENT, Rooms.NEW,
                    room -> room.corner(bad, bad));
        }
    }

    /** "illegal state: 12 wait". */
    private static void cornerWithTwelve() {
        LeatherRoom room = FURNISHED.told();
        Rooms.offer(room, java.util.Arrays.copyOf(TWELVE, 22));
        Check.due("2 the twelfth", 12, () -> room.corner(10, 10));
        Check.refused("2 the thirteenth", Rooms.STATE, () -> room.corner(10, 5));
        Check.refused("2 and once more", Rooms.STATE, () -> room.corner(10, 5));
        Check.due("2 the twelve still wait, and no other", 0, () -> Rooms.hide(room));
        Check.due("2 they are the hide", 1000, room::free);
        Check.due("2 then none waits", 1, () -> room.corner(10, 5));
        Story waits = Rooms.IN_USE.then(Rooms.offered(TWELVE));
        Refused.andAllStays("2 twelve wait", Rooms.STATE, waits, r -> r.corner(0, 0));
        Refused.andAllStays("2 twelve wait", Rooms.STATE, waits, r -> r.corner(30, 30));
        Refused.andAllStays("2 no coordinate, and twelve wait", Rooms.ARGUMENT, waits,
                r -> r.corner(31, 0));
    }

    /** "The corners that wait become the hide, in place of the one before". */
    private static void hideInPlace() {
        Story square = Rooms.offered(0, 0, 9, 0, 9, 9, 0, 9).then(LeatherRoom::hide);
        Story cross = Rooms.offered(TWELVE).then(LeatherRoom::hide);
        Story small = room -> Rooms.kind(room, 1, 15, Rooms.SQUARE);
        Probe.alike("3 a smaller one before", small.then(cross),
                small.then(square).then(cross));
        Probe.alike("3 a larger one before", small.then(square),
                small.then(cross).then(square));
        Probe.alike("3 the same before", small.then(cross), small.then(cross).then(cross));
    }

    /** "zones and kinds stay". */
    private static void hideLeavesZonesAndKinds() {
        Story hide = Rooms.offered(Rooms.BIG).then(LeatherRoom::hide);
        Story zones = room -> {
            Rooms.zone(room, 1, 4, 3, 9, 3, 4, 9);
            Rooms.zone(room, 3, 20, 5, 25, 5, 25, 10, 20, 10);
        };
        Story kinds = room -> {
            Rooms.kind(room, 2, 15, Rooms.TRIANGLE);
            Rooms.kind(room, 4, 3, Rooms.SQUARE);
        };
        Probe.alike("3 first the hide or last", hide.then(zones).then(kinds),
                zones.then(kinds).then(hide));
        Probe.alike("3 the hide in place of one between", hide.then(zones).then(kinds),
                room -> {
                    zones.tell(room);
                    Rooms.hide(room, 0, 0, 9, 0, 0, 9);
                    kinds.tell(room);
                    hide.tell(room);
                });
    }

    /** "no corner waits then, whether they can or not". */
    private static void hideCornersGo() {
        LeatherRoom can = new LeatherRoom();
        Rooms.hide(can, Rooms.BIG);
        Check.due("3 none waits after they could", 1, () -> can.corner(0, 0));
        LeatherRoom canNot = new LeatherRoom();
        Check.refused("3 they can not", Rooms.ARGUMENT, () -> Rooms.hide(canNot, BOW));
        Check.due("3 none waits after they could not", 1, () -> canNot.corner(0, 0));
    }

    /** "Illegal state: some part lies there (they still wait then)". */
    private static void hideWithParts() {
        Story[] full = {ONE_PART, Rooms.IN_USE, Rooms.FULL};
        int[][] waiting = {Rooms.NONE, {5, 5}, {5, 5, 6, 6}, Rooms.BIG, BOW, TWELVE};
        for (Story before : full) {
            for (int[] corners : waiting) {
                Refused.andAllStays("3 parts, and corners " + corners.length / 2, Rooms.STATE,
                        before.then(Rooms.offered(corners)), LeatherRoom::hide);
            }
        }
        Story kept = FURNISHED.then(room -> Rooms.hide(room, Rooms.BIG));
        Probe.alike("3 the last part is taken, and they become the hide", kept,
                ONE_PART.then(room -> {
                    Rooms.offer(room, Rooms.BIG);
                    Check.refused("3 one part", Rooms.STATE, () -> Rooms.hide(room));
                    room.take(0);
                    room.hide();
                }));
    }

    /** "illegal argument: they are not 3 .. 12" and "(which stays if they can not ..)". */
    private static void hideCornerCounts() {
        for (Story before : new Story[] {Rooms.NEW, FURNISHED}) {
            Refused.andCornersGo("3 none", Rooms.ARGUMENT, before, LeatherRoom::hide);
            Refused.andCornersGo("3 one", Rooms.ARGUMENT, before, LeatherRoom::hide, 5, 5);
            Refused.andCornersGo("3 two", Rooms.ARGUMENT, before, LeatherRoom::hide, 5, 5, 9, 9);
            Check.due("3 three", 0, () -> Rooms.hide(before.told(), Rooms.TRIANGLE));
            Check.due("3 twelve", 0, () -> Rooms.hide(before.told(), TWELVE));
        }
    }

    /** "or not a plain shape" and "(which stays if they can not; zones and kinds stay)". */
    private static void hideNotPlain() {
        int[][] shapes = {BOW, {0, 0, 9, 0, 18, 0}, {0, 0, 20, 0, 20, 10, 10, 0, 0, 10},
            {5, 5, 5, 5, 9, 9, 5, 9}};
        for (int[] shape : shapes) {
            Refused.andCornersGo("3 not plain, no hide before", Rooms.ARGUMENT, Rooms.NEW,
                    LeatherRoom::hide, shape);
            Refused.andCornersGo("3 not plain, the one before stays", Rooms.ARGUMENT, FURNISHED,
                    LeatherRoom::hide, shape);
        }
    }

    /** "a zone (in the hide or not) with a grade: how many zones there are then". */
    private static void zoneInHideOrNot() {
        LeatherRoom room = Rooms.withHide(10, 10, 20, 10, 20, 20, 10, 20);
        Rooms.kind(room, 2, 1, Rooms.SQUARE);
        Check.due("4 in it", 1, () -> Rooms.zone(room, 1, 12, 12, 13, 12, 13, 13, 12, 13));
        Check.due("4 half in it", 2, () -> Rooms.zone(room, 1, 18, 18, 25, 18, 25, 25, 18, 25));
        Check.due("4 not in it", 3, () -> Rooms.zone(room, 1, 0, 0, 5, 0, 0, 5));
        Check.due("4 touching it", 4, () -> Rooms.zone(room, 1, 5, 10, 10, 10, 10, 15));
        Check.due("4 twice the same", 5, () -> Rooms.zone(room, 1, 0, 0, 5, 0, 0, 5));
        Check.due("4 without a hide", 1, () -> Rooms.zone(new LeatherRoom(), 1, Rooms.TRIANGLE));
        Check.due("4 only within counts", 1, () -> Rooms.fits(room, 0, 10, 10, 0));
        Check.due("4 in the first", 0, () -> Rooms.fits(room, 0, 12, 12, 0));
        Check.due("4 in the second", 0, () -> Rooms.fits(room, 0, 18, 18, 0));
        Check.due("4 the hide is as it was", 200, room::free);
    }

    /** "Illegal argument: grade is not 1 .. 3" and "but if the grade is none". */
    private static void zoneGrades() {
        int[] bad = {0, 4, -1, 5, Integer.MIN_VALUE, Integer.MAX_VALUE};
        int[][] waiting = {Rooms.NONE, Rooms.TRIANGLE, BOW, TWELVE};
        for (int grade : bad) {
            for (int[] corners : waiting) {
                Refused.andAllStays("4 grade " + grade, Rooms.ARGUMENT,
                        FURNISHED.then(Rooms.offered(corners)), room -> room.zone(grade));
            }
            for (Story before : new Story[] {FIVE_ZONES, ONE_PART, Rooms.FULL}) {
                Refused.andAllStays("4 grade " + grade + " before the state", Rooms.ARGUMENT,
                        before.then(Rooms.offered(Rooms.TRIANGLE)), room -> room.zone(grade));
            }
        }
        for (int grade = 1; grade <= 3; grade++) {
            LeatherRoom room = FURNISHED.told();
            int good = grade;
            Check.due("4 grade " + good, 3, () -> Rooms.zone(room, good, Rooms.TRIANGLE));
            Check.due("4 no corner waits then", 1, () -> room.corner(0, 0));
        }
    }

    /** "or they are not 3 .. 6" and "no corner waits then, whether they can or not". */
    private static void zoneCornerCounts() {
        int[][] bad = {Rooms.NONE, {5, 5}, {5, 5, 9, 9}, SEVEN, TWELVE};
        for (int[] corners : bad) {
            String name = "4 corners " + corners.length / 2;
            Refused.andCornersGo(name, Rooms.ARGUMENT, FURNISHED, room -> room.zone(1), corners);
            Refused.andCornersGo(name, Rooms.ARGUMENT, Rooms.NEW, room -> room.zone(3), corners);
        }
        int[][] good = {Rooms.TRIANGLE, Rooms.SQUARE, {2, 0, 6, 0, 8, 4, 6, 8, 2, 8}, SIX};
        for (int[] corners : good) {
            LeatherRoom room = FURNISHED.told();
            Check.due("4 corners " + corners.length / 2, 3, () -> Rooms.zone(room, 1, corners));
            Check.due("4 no corner waits then", 1, () -> room.corner(0, 0));
        }
    }

    /** "or not a round shape". */
    private static void zoneNotRound() {
        int[][] bad = {BOW, {0, 0, 9, 9, 30, 30}, {0, 0, 10, 0, 10, 10, 5, 1},
            {0, 0, 5, 0, 10, 0, 10, 10}, {4, 4, 4, 4, 4, 4}};
        for (int[] corners : bad) {
            Refused.andCornersGo("4 not round", Rooms.ARGUMENT, FURNISHED, room -> room.zone(2),
                    corners);
        }
    }

    /** "illegal state: there are 5 zones". */
    private static void zoneSixth() {
        LeatherRoom room = new LeatherRoom();
        for (int i = 1; i <= 5; i++) {
            int count = i;
            Check.due("4 zone", count, () -> Rooms.zone(room, 1, Rooms.TRIANGLE));
        }
        Check.refused("4 the sixth", Rooms.STATE, () -> Rooms.zone(room, 1, Rooms.TRIANGLE));
        Refused.andCornersGo("4 the sixth", Rooms.STATE, FIVE_ZONES, r -> r.zone(1), Rooms.BIG);
        room.clear();
        Check.due("4 after clear", 1, () -> Rooms.zone(room, 1, Rooms.TRIANGLE));
    }

    /** "or some part lies there". */
    private static void zoneWithParts() {
        for (Story before : new Story[] {ONE_PART, Rooms.IN_USE, Rooms.FULL}) {
            Refused.andCornersGo("4 some part", Rooms.STATE, before, room -> room.zone(1),
                    Rooms.BIG);
            Refused.andCornersGo("4 some part, far from it", Rooms.STATE, before,
                    room -> room.zone(3), 29, 29, 30, 29, 30, 30);
        }
        LeatherRoom room = ONE_PART.told();
        room.take(0);
        Check.due("4 no part any more", 3, () -> Rooms.zone(room, 1, Rooms.TRIANGLE));
    }

    /** "There are no zones any more". */
    private static void clearZones() {
        Story bare = room -> {
            Rooms.hide(room, Rooms.BIG);
            Rooms.kind(room, 4, 15, Rooms.TRIANGLE);
            Rooms.offer(room, 3, 3, 9, 4);
        };
        for (int i = 0; i <= 5; i++) {
            int count = i;
            Story zones = room -> {
                for (int k = 0; k < count; k++) {
                    Rooms.zone(room, 1 + k % 3, 6 * k, 0, 6 * k + 5, 0, 6 * k + 5, 20);
                }
            };
            Probe.alike("5 clear with " + count, bare, zones.then(bare).then(LeatherRoom::clear));
            LeatherRoom room = zones.told();
            room.clear();
            for (int k = 1; k <= 5; k++) {
                int next = k;
                Check.due("5 zones from 1 on", next, () -> Rooms.zone(room, 1, Rooms.TRIANGLE));
            }
        }
    }

    /** "There are no zones any more": those that come then are as if they were the first. */
    private static void zonesAfterClear() {
        Story bare = room -> {
            Rooms.hide(room, Rooms.BIG);
            Rooms.kind(room, 3, 15, Rooms.TRIANGLE);
            Rooms.kind(room, 2, 15, Rooms.SQUARE);
        };
        Story large = room -> {
            for (int i = 0; i < 5; i++) {
                Rooms.zone(room, 1, Rooms.BIG);
            }
        };
        for (int[] zone : Rooms.everyStart(11, 3, 14, 5, 12, 9)) {
            Story small = room -> Rooms.zone(room, 2, zone);
            Probe.alike("5 clear, then a zone", bare.then(small),
                    bare.then(large).then(LeatherRoom::clear).then(small));
        }
    }

    /** "Illegal state: some part lies there". */
    private static void clearWithParts() {
        Story waits = Rooms.offered(3, 3, 9, 4);
        for (Story before : new Story[] {ONE_PART, Rooms.IN_USE, Rooms.FULL}) {
            Refused.andAllStays("5 some part", Rooms.STATE, before.then(waits),
                    LeatherRoom::clear);
        }
        Story noZones = room -> {
            Rooms.hide(room, Rooms.BIG);
            Rooms.kind(room, 1, 1, Rooms.SQUARE);
            room.lay(0);
        };
        Refused.andAllStays("5 some part, no zone", Rooms.STATE, noZones, LeatherRoom::clear);
        Probe.alike("5 no part any more", FURNISHED.then(LeatherRoom::clear),
                ONE_PART.then(room -> {
                    room.take(0);
                    room.clear();
                }));
    }

    /** "Illegal argument: grade is not 1 .. 4" and "but if grade or turns are wrong". */
    private static void kindGrades() {
        int[] bad = {0, 5, -1, 6, Integer.MIN_VALUE, Integer.MAX_VALUE};
        for (int grade : bad) {
            notKindButCornersStay("6 grade " + grade, grade, 1);
            notKindButCornersStay("6 grade " + grade, grade, 15);
            notKindButCornersStay("6 grade and turns " + grade, grade, 16);
        }
        for (int grade = 1; grade <= 4; grade++) {
            LeatherRoom room = FURNISHED.told();
            int good = grade;
            Check.due("6 grade " + good, 3, () -> Rooms.kind(room, good, 1, Rooms.TRIANGLE));
            Check.due("6 no corner waits then", 1, () -> room.corner(0, 0));
        }
    }

    /** "turns not 1 .. 15" and "with some turns (the sum of 2^t of them)". */
    private static void kindTurns() {
        int[] bad = {0, 16, -1, 17, 31, Integer.MIN_VALUE, Integer.MIN_VALUE + 1,
            Integer.MAX_VALUE};
        for (int turns : bad) {
            notKindButCornersStay("6 turns " + turns, 1, turns);
            notKindButCornersStay("6 turns " + turns, 4, turns);
        }
        for (int turns = 1; turns <= 15; turns++) {
            LeatherRoom room = Rooms.withHide(Rooms.BIG);
            int good = turns;
            Check.due("6 turns " + good, 0, () -> Rooms.kind(room, 1, good, Rooms.TRIANGLE));
            Check.due("6 no corner waits then", 1, () -> room.corner(0, 0));
            for (int t = 0; t < 4; t++) {
                int turn = t;
                Check.due("6 turn " + turn + " of " + good, good >> turn & 1,
                        () -> Rooms.fits(room, 0, 9, 9, turn));
            }
        }
    }

    private static void notKindButCornersStay(String name, int grade, int turns) {
        int[][] waiting = {Rooms.NONE, Rooms.TRIANGLE, BOW, TWELVE};
        for (int[] corners : waiting) {
            Refused.andAllStays(name, Rooms.ARGUMENT, FURNISHED.then(Rooms.offered(corners)),
                    room -> room.kind(grade, turns));
        }
        Refused.andAllStays(name + " before the state", Rooms.ARGUMENT,
                SIX_KINDS.then(Rooms.offered(Rooms.TRIANGLE)), room -> room.kind(grade, turns));
    }

    /** "or they are not 3 .. 6" and "no corner waits then, whether they can or not". */
    private static void kindCornerCounts() {
        int[][] bad = {Rooms.NONE, {5, 5}, {5, 5, 9, 9}, SEVEN,
            {0, 0, 1, 0, 2, 0, 3, 0, 4, 0, 5, 0, 6, 0, 7, 0, 8, 0, 9, 0, 9, 9, 0, 9}};
        for (int[] corners : bad) {
            String name = "6 corners " + corners.length / 2;
            Refused.andCornersGo(name, Rooms.ARGUMENT, FURNISHED, room -> room.kind(1, 1), corners);
            Refused.andCornersGo(name, Rooms.ARGUMENT, Rooms.NEW, room -> room.kind(4, 15),
                    corners);
        }
        int[][] good = {Rooms.TRIANGLE, Rooms.SQUARE, {2, 0, 6, 0, 8, 4, 6, 8, 2, 8}, SIX};
        for (int[] corners : good) {
            LeatherRoom room = FURNISHED.told();
            Check.due("6 corners " + corners.length / 2, 3,
                    () -> Rooms.kind(room, 1, 1, corners));
            Check.due("6 no corner waits then", 1, () -> room.corner(0, 0));
        }
    }

    /** "or not a round shape". */
    private static void kindNotRound() {
        int[][] bad = {BOW, {0, 0, 6, 6, 12, 12}, {0, 0, 10, 0, 10, 10, 5, 1},
            {0, 0, 5, 0, 10, 0, 10, 10}, {4, 4, 4, 4, 4, 4}};
        for (int[] corners : bad) {
            Refused.andCornersGo("6 not round", Rooms.ARGUMENT, FURNISHED, room -> room.kind(2, 3),
                    corners);
        }
    }

    /** "or have a coordinate above 12". */
    private static void kindCoordinates() {
        int[][] bad = {{0, 0, 13, 0, 0, 5}, {0, 0, 5, 0, 0, 13}, {13, 0, 5, 5, 0, 0},
            {0, 13, 0, 0, 5, 5}, {12, 12, 13, 12, 12, 11}, {12, 12, 12, 13, 11, 12},
            {13, 13, 14, 13, 13, 14}, {0, 0, 30, 0, 0, 30}};
        for (int[] corners : bad) {
            Refused.andCornersGo("6 above 12", Rooms.ARGUMENT, FURNISHED, room -> room.kind(1, 15),
                    corners);
            Refused.andCornersGo("6 above 12", Rooms.ARGUMENT, Rooms.IN_USE,
                    room -> room.kind(1, 15), corners);
        }
        int[][] good = {{0, 0, 12, 0, 0, 5}, {0, 0, 5, 0, 0, 12}, {12, 12, 11, 12, 12, 11},
            {0, 0, 12, 0, 12, 12, 0, 12}};
        for (int[] corners : good) {
            Check.due("6 up to 12", 0, () -> Rooms.kind(new LeatherRoom(), 1, 15, corners));
        }
    }

    /** "illegal state: there are 6 kinds". */
    private static void kindSeventh() {
        LeatherRoom room = new LeatherRoom();
        for (int i = 0; i < 6; i++) {
            int number = i;
            Check.due("6 its number", number, () -> Rooms.kind(room, 1, 1, Rooms.TRIANGLE));
        }
        Check.refused("6 the seventh", Rooms.STATE, () -> Rooms.kind(room, 1, 1, Rooms.TRIANGLE));
        Refused.andCornersGo("6 the seventh", Rooms.STATE, SIX_KINDS, r -> r.kind(4, 15),
                Rooms.SQUARE);
        Refused.andCornersGo("6 the seventh, with parts", Rooms.STATE,
                SIX_KINDS.then(r -> r.lay(5)), r -> r.kind(1, 1), Rooms.SQUARE);
    }

    /** Promise 6 names no state but the one with 6 kinds, so parts do not keep kinds away. */
    private static void kindAtAnyTime() {
        Story kinds = room -> {
            Rooms.kind(room, 1, 15, Rooms.SQUARE);
            Rooms.kind(room, 3, 15, Rooms.TRIANGLE);
            Rooms.kind(room, 4, 9, 0, 0, 7, 0, 0, 2);
        };
        Story parts = room -> {
            for (int i = 0; i < 12; i++) {
                room.lay(i % 3);
            }
        };
        Probe.alike("6 kinds before or after parts", FURNISHED.then(kinds).then(parts),
                FURNISHED.then(parts).then(kinds));
        Check.due("6 with 12 parts", 3, () -> Rooms.kind(Rooms.FULL.told(), 1, 1, Rooms.SQUARE));
        Check.due("6 with 5 zones", 3, () -> Rooms.kind(FIVE_ZONES.told(), 1, 1, Rooms.SQUARE));
    }
}
