import java.util.NoSuchElementException;

/** Each promise of the document by its number: ordinary inputs, edges and wrong inputs. */
public final class Promises {
    private static final Class<IllegalArgumentException> ARGUMENT = IllegalArgumentException.class;
    private static final Class<IllegalStateException> STATE = IllegalStateException.class;
    private static final Class<NoSuchElementException> ELEMENT = NoSuchElementException.class;
    private static final Class<UnsupportedOperationException> OPERATION =
            UnsupportedOperationException.class;

    private static final int[] BIG = {0, 0, 30, 0, 30, 30, 0, 30};
    private static final int[] SQUARE = {0, 0, 1, 0, 1, 1, 0, 1};
    private static final int[] TRIANGLE = {0, 0, 5, 0, 0, 5};

    private Promises() {
    }

    public static void main(String[] args) {
        newObject();
        corner();
        hideTakesCorners();
        hideRefusesWhatIsNotPlain();
        hideTakesWhatIsPlain();
        hideWithParts();
        zone();
        zoneRefusesWhatIsNotRound();
        zoneInIllegalState();
        clear();
        kind();
        kindRefuses();
        kindAtMostSix();
        fitsWithinTheOutline();
        fitsBesideBends();
        fitsOffZones();
        fitsBesideParts();
        fitsInTurns();
        fitsRefuses();
        best();
        bestByTurn();
        lay();
        put();
        take();
        strip();
        part();
        parts();
        free();
        Check.end();
    }

    private static void newObject() {
        LeatherRoom room = new LeatherRoom();
        Check.due("1 parts", 0, room::parts);
        Check.due("1 free", 0, room::free);
        Check.refused("1 no kind", ARGUMENT, () -> room.best(0));
        Check.refused("1 no part", ELEMENT, () -> room.take(0));
        Check.due("1 no zone before the first", 1, () -> zone(room, 1, 0, 0, 2, 0, 0, 2));
        Check.due("1 no kind before the first", 0, () -> kind(room, 4, 15, SQUARE));
        Check.due("1 nothing fits without a hide", 0, () -> fits(room, 0, 20, 20, 0));
        Check.due("1 nor at the origin", 0, () -> fits(room, 0, 0, 0, 0));
        Check.refused("1 no best place without a hide", ELEMENT, () -> room.best(0));
        Check.refused("1 none to lay", ELEMENT, () -> room.lay(0));
        Check.refused("1 none to put", OPERATION, () -> room.put(0, 20, 20, 0));
        Check.due("1 no corner waits", 1, () -> room.corner(3, 3));
        Check.due("1 two objects are two", 1, () -> new LeatherRoom().corner(3, 3));
    }

    private static void corner() {
        LeatherRoom room = new LeatherRoom();
        Check.refused("2 x below", ARGUMENT, () -> room.corner(-1, 0));
        Check.refused("2 x above", ARGUMENT, () -> room.corner(31, 0));
        Check.refused("2 y below", ARGUMENT, () -> room.corner(0, -1));
        Check.refused("2 y above", ARGUMENT, () -> room.corner(0, 31));
        Check.refused("2 far", ARGUMENT, () -> room.corner(Integer.MIN_VALUE, Integer.MAX_VALUE));
        for (int i = 0; i < 12; i++) {
            int edge = i % 2 == 0 ? 0 : 30;
            Check.due("2 corner", i + 1, () -> room.corner(edge, 30 - edge));
        }
        Check.refused("2 the thirteenth", STATE, () -> room.corner(3, 3));
        Check.refused("2 argument before state", ARGUMENT, () -> room.corner(31, 3));
        Check.refused("2 twelve still wait", STATE, () -> room.corner(3, 3));
    }

    private static void hideTakesCorners() {
        LeatherRoom room = new LeatherRoom();
        Check.refused("3 no corners", ARGUMENT, () -> hide(room));
        Check.refused("3 one corner", ARGUMENT, () -> hide(room, 1, 1));
        Check.refused("3 two corners", ARGUMENT, () -> hide(room, 1, 1, 2, 5));
        Check.due("3 refused corners are gone", 1, () -> room.corner(0, 0));
        Check.due("3 a triangle", 0, () -> hide(room, 10, 0, 0, 10));
        Check.due("3 its area", 100, room::free);
        Check.due("3 corners are gone", 1, () -> room.corner(0, 0));
        Check.refused("3 not plain", ARGUMENT, () -> hide(room, 20, 20, 20, 0, 0, 20));
        Check.due("3 the one before stays", 100, room::free);
        Check.due("3 the other way round", 0, () -> hide(room, 0, 0, 0, 20, 20, 20, 20, 0));
        Check.due("3 in place of the one before", 800, room::free);
        kind(room, 2, 1, SQUARE);
        zone(room, 1, 0, 0, 9, 0, 9, 9, 0, 9);
        Check.due("3 twelve corners", 0, () -> hide(room, 0, 0, 5, 0, 10, 0, 15, 1, 20, 0, 30, 0,
                30, 20, 20, 21, 15, 20, 10, 21, 5, 20, 0, 20));
        Check.due("3 zones and kinds stay", 9, () -> room.best(0));
        Check.refused("3 refused again", ARGUMENT, () -> hide(room, 1, 1));
        Check.due("3 and then too", 9, () -> room.best(0));
    }

    private static void hideRefusesWhatIsNotPlain() {
        LeatherRoom room = new LeatherRoom();
        notPlain(room, "sides cross", 0, 0, 10, 10, 10, 0, 0, 10);
        notPlain(room, "sides cross off the lattice", 0, 0, 7, 5, 7, 2, 0, 3);
        notPlain(room, "three in a line", 0, 0, 10, 0, 5, 0);
        notPlain(room, "three in a line, in order", 0, 0, 5, 5, 10, 10);
        notPlain(room, "a corner on a side", 0, 0, 10, 0, 10, 10, 5, 0);
        notPlain(room, "a side back along the one before", 0, 0, 10, 0, 4, 0, 4, 8);
        notPlain(room, "a side back beyond the one before", 4, 0, 10, 0, 0, 0, 4, 8);
        notPlain(room, "the last side along the first", 4, 0, 10, 0, 10, 9, 8, 0);
        notPlain(room, "a spike", 0, 0, 10, 0, 10, 10, 10, 20, 10, 10, 0, 10);
        notPlain(room, "a corner twice in turn", 0, 0, 0, 0, 10, 10, 0, 10);
        notPlain(room, "the last corner as the first", 0, 0, 10, 0, 10, 10, 0, 0);
        notPlain(room, "a corner twice", 5, 5, 0, 0, 10, 0, 5, 5, 10, 10, 0, 10);
        notPlain(room, "one point and one other", 3, 3, 3, 3, 7, 7);
        notPlain(room, "one point thrice", 3, 3, 3, 3, 3, 3);
        notPlain(room, "sides that share a stretch",
                0, 0, 9, 0, 9, 9, 3, 9, 3, 0, 6, 0, 6, 5, 0, 5);
        notPlain(room, "a star", 10, 0, 16, 18, 1, 7, 19, 7, 4, 18);
        Check.due("3 no hide came of these", 0, room::free);
    }

    private static void notPlain(LeatherRoom room, String name, int... corners) {
        Check.refused("3 " + name, ARGUMENT, () -> hide(room, corners));
    }

    private static void hideTakesWhatIsPlain() {
        LeatherRoom room = new LeatherRoom();
        plain(room, "a corner on a straight way", 200, 0, 0, 5, 0, 10, 0, 10, 10, 0, 10);
        plain(room, "the same with the shortest sides", 8, 0, 0, 1, 0, 2, 0, 2, 2, 0, 2);
        plain(room, "sides of one line apart", 136,
                0, 0, 10, 0, 10, 10, 7, 10, 7, 2, 3, 2, 3, 10, 0, 10);
        plain(room, "nearly touching", 44, 0, 0, 10, 0, 10, 2, 5, 1, 9, 3, 0, 2);
        plain(room, "the whole lattice", 1800, BIG);
        plain(room, "a narrow one", 1, 0, 0, 30, 29, 29, 28);
    }

    private static void plain(LeatherRoom room, String name, int area, int... corners) {
        Check.due("3 " + name, 0, () -> hide(room, corners));
        Check.due("3 area of " + name, area, room::free);
    }

    private static void hideWithParts() {
        LeatherRoom room = room(BIG);
        kind(room, 1, 1, SQUARE);
        room.lay(0);
        Check.refused("3 some part lies there", STATE, () -> hide(room, 0, 0, 9, 0, 0, 9));
        Check.due("3 the corners still wait", 4, () -> room.corner(9, 9));
        Check.refused("3 state before argument", STATE, () -> hide(room));
        Check.due("3 they still wait", 5, () -> room.corner(3, 9));
        Check.due("3 the hide is the one before", 1798, room::free);
        room.take(0);
        Check.refused("3 now it is the corners", ARGUMENT, () -> hide(room));
        Check.due("3 that are gone", 1, () -> room.corner(9, 9));
    }

    private static void zone() {
        LeatherRoom room = room(0, 0, 9, 0, 9, 9, 0, 9);
        Check.due("4 first", 1, () -> zone(room, 1, 0, 0, 2, 0, 0, 2));
        Check.due("4 no corner waits", 1, () -> room.corner(4, 0));
        Check.refused("4 grade 0", ARGUMENT, () -> room.zone(0));
        Check.refused("4 grade 4", ARGUMENT, () -> room.zone(4));
        Check.refused("4 grade far below", ARGUMENT, () -> room.zone(Integer.MIN_VALUE));
        Check.due("4 the corner waits", 2, () -> room.corner(6, 0));
        Check.due("4 third corner", 3, () -> room.corner(6, 3));
        Check.due("4 it becomes one", 2, () -> room.zone(3));
        Check.due("4 out of the hide", 3, () -> zone(room, 2, 20, 20, 30, 20, 30, 30, 20, 30));
        Check.due("4 six corners, rightward", 4,
                () -> zone(room, 2, 2, 0, 0, 2, 0, 4, 2, 6, 4, 4, 4, 2));
        Check.due("4 over another", 5, () -> zone(room, 1, 2, 0, 4, 0, 4, 2));
        Check.due("4 the hide is as it was", 162, room::free);
    }

    private static void zoneRefusesWhatIsNotRound() {
        LeatherRoom room = room(BIG);
        notRound(room, "no corners");
        notRound(room, "two corners", 0, 0, 4, 4);
        notRound(room, "seven corners", 2, 0, 6, 0, 8, 2, 8, 6, 6, 8, 2, 8, 0, 4);
        notRound(room, "three in a line", 0, 0, 10, 0, 20, 0);
        notRound(room, "a corner on a straight way", 0, 0, 5, 0, 10, 0, 10, 10);
        notRound(room, "the first corner on a straight way", 5, 0, 10, 0, 10, 10, 0, 0);
        notRound(room, "a bend inwards", 0, 0, 10, 0, 10, 10, 5, 2);
        notRound(room, "sides cross", 0, 0, 10, 10, 10, 0, 0, 10);
        notRound(room, "a star of like bends", 10, 0, 16, 18, 1, 7, 19, 7, 4, 18);
        notRound(room, "a corner twice", 0, 0, 9, 0, 9, 9, 9, 9);
        notRound(room, "one point", 4, 4, 4, 4, 4, 4);
        notRound(room, "round twice", 0, 0, 9, 0, 0, 9, 0, 0, 9, 0, 0, 9);
        Check.due("4 none of these became one", 1, () -> zone(room, 1, 0, 0, 2, 0, 0, 2));
    }

    private static void notRound(LeatherRoom room, String name, int... corners) {
        Check.refused("4 " + name, ARGUMENT, () -> zone(room, 1, corners));
        Check.due("4 no corner waits after " + name, 1, () -> room.corner(1, 1));
        Check.refused("4 one corner", ARGUMENT, () -> room.zone(1));
    }

    private static void zoneInIllegalState() {
        LeatherRoom room = room(BIG);
        for (int i = 1; i <= 5; i++) {
            Check.due("4 zone", i, () -> zone(room, 1, 0, 0, 2, 0, 0, 2));
        }
        Check.refused("4 a sixth", STATE, () -> zone(room, 1, 0, 0, 2, 0, 0, 2));
        Check.due("4 whose corners are gone", 1, () -> room.corner(0, 0));
        Check.refused("4 argument before state", ARGUMENT, () -> room.zone(1));
        Check.refused("4 grade before state", ARGUMENT, () -> room.zone(4));
        room.clear();
        kind(room, 1, 1, SQUARE);
        room.lay(0);
        Check.refused("4 some part lies there", STATE, () -> zone(room, 1, 9, 9, 12, 9, 9, 12));
        Check.due("4 corners are gone then too", 1, () -> room.corner(0, 0));
        Check.refused("4 argument before parts", ARGUMENT, () -> room.zone(1));
        room.strip();
        Check.due("4 with no parts again", 1, () -> zone(room, 1, 9, 9, 12, 9, 9, 12));
    }

    private static void clear() {
        LeatherRoom room = room(BIG);
        kind(room, 4, 1, SQUARE);
        zone(room, 3, 0, 0, 9, 0, 9, 9, 0, 9);
        zone(room, 1, 9, 0, 20, 0, 20, 9, 9, 9);
        room.corner(7, 7);
        Check.due("5 before", 20, () -> room.best(0));
        room.clear();
        Check.due("5 no zones", 0, () -> room.best(0));
        Check.due("5 corners wait on", 2, () -> room.corner(9, 7));
        Check.due("5 third corner", 3, () -> room.corner(9, 9));
        Check.due("5 zones from the first on", 1, () -> room.zone(1));
        room.lay(0);
        Check.refused("5 some part lies there", STATE, () -> {
            room.clear();
            return 0;
        });
        room.take(0);
        Check.due("5 the zone stayed", 0, () -> fits(room, 0, 8, 7, 0));
        room.clear();
        room.clear();
        Check.due("5 now it is gone", 1, () -> fits(room, 0, 8, 7, 0));
        Check.due("5 the hide stays", 1800, room::free);
    }

    private static void kind() {
        LeatherRoom room = room(BIG);
        Check.due("6 first", 0, () -> kind(room, 1, 1, 3, 4, 12, 4, 3, 12));
        Check.due("6 no corner waits", 1, () -> room.corner(0, 0));
        Check.refused("6 grade 0", ARGUMENT, () -> room.kind(0, 1));
        Check.refused("6 grade 5", ARGUMENT, () -> room.kind(5, 1));
        Check.refused("6 turns 0", ARGUMENT, () -> room.kind(1, 0));
        Check.refused("6 turns 16", ARGUMENT, () -> room.kind(1, 16));
        Check.refused("6 turns below 0", ARGUMENT, () -> room.kind(1, -1));
        Check.due("6 the corner waits", 2, () -> room.corner(0, 2));
        Check.due("6 third corner", 3, () -> room.corner(2, 0));
        Check.due("6 it becomes one", 1, () -> room.kind(4, 15));
        Check.due("6 it is moved to the origin", 1, () -> fits(room, 0, 0, 0, 0));
        Check.due("6 and is 9 wide", 1, () -> fits(room, 0, 21, 22, 0));
        Check.due("6 not less", 0, () -> fits(room, 0, 22, 22, 0));
        room.lay(0);
        Check.due("6 while some part lies there", 2, () -> kind(room, 1, 8, SQUARE));
        Check.due("6 in its only turn", 1024 * 3 + 9, () -> room.best(2));
    }

    private static void kindRefuses() {
        LeatherRoom room = room(BIG);
        notKind(room, "no corners");
        notKind(room, "two corners", 0, 0, 4, 4);
        notKind(room, "seven corners", 2, 0, 6, 0, 8, 2, 8, 6, 6, 8, 2, 8, 0, 4);
        notKind(room, "three in a line", 0, 0, 4, 4, 8, 8);
        notKind(room, "a bend inwards", 0, 0, 10, 0, 10, 10, 5, 2);
        notKind(room, "x above 12", 1, 1, 13, 1, 1, 5);
        notKind(room, "y above 12", 1, 1, 5, 1, 1, 13);
        notKind(room, "all above 12", 20, 20, 21, 20, 20, 21);
        notKind(room, "a corner twice", 0, 0, 1, 0, 1, 1, 0, 1, 0, 1);
        Check.due("6 none of these became one", 0,
                () -> kind(room, 1, 1, 0, 0, 12, 0, 12, 12, 0, 12));
    }

    private static void notKind(LeatherRoom room, String name, int... corners) {
        Check.refused("6 " + name, ARGUMENT, () -> kind(room, 1, 1, corners));
        Check.due("6 no corner waits after " + name, 1, () -> room.corner(1, 1));
        Check.refused("6 one corner", ARGUMENT, () -> room.kind(1, 1));
    }

    private static void kindAtMostSix() {
        LeatherRoom room = room(BIG);
        for (int i = 0; i < 6; i++) {
            Check.due("6 kind", i, () -> kind(room, 1, 1, SQUARE));
        }
        Check.refused("6 a seventh", STATE, () -> kind(room, 1, 1, SQUARE));
        Check.due("6 whose corners are gone", 1, () -> room.corner(0, 0));
        Check.refused("6 argument before state", ARGUMENT, () -> room.kind(1, 1));
        Check.refused("6 coordinates before state", ARGUMENT,
                () -> kind(room, 1, 1, 1, 1, 13, 1, 1, 5));
        Check.refused("6 grade before state", ARGUMENT, () -> room.kind(5, 1));
        Check.refused("6 there is no kind 6", ARGUMENT, () -> room.best(6));
        Check.due("6 there is a kind 5", 0, () -> room.best(5));
    }

    private static void fitsWithinTheOutline() {
        LeatherRoom room = room(2, 3, 22, 3, 22, 13, 2, 13);
        kind(room, 1, 15, 0, 0, 4, 0, 4, 3, 0, 3);
        Check.due("7 lower left, rims touch", 1, () -> fits(room, 0, 2, 3, 0));
        Check.due("7 too far left", 0, () -> fits(room, 0, 1, 3, 0));
        Check.due("7 too low", 0, () -> fits(room, 0, 2, 2, 0));
        Check.due("7 upper right, rims touch", 1, () -> fits(room, 0, 18, 10, 0));
        Check.due("7 too far right", 0, () -> fits(room, 0, 19, 10, 0));
        Check.due("7 too high", 0, () -> fits(room, 0, 18, 11, 0));
        Check.due("7 far out", 0, () -> fits(room, 0, 30, 30, 0));
        LeatherRoom slant = room(10, 0, 20, 10, 10, 20, 0, 10);
        kind(slant, 1, 15, SQUARE);
        kind(slant, 1, 15, 1, 0, 2, 1, 1, 2, 0, 1);
        Check.due("7 a corner on a slant side", 1, () -> fits(slant, 0, 5, 5, 0));
        Check.due("7 a corner beyond it", 0, () -> fits(slant, 0, 4, 5, 0));
        Check.due("7 slant along slant", 1, () -> fits(slant, 1, 4, 5, 0));
        Check.due("7 slant beyond slant", 0, () -> fits(slant, 1, 4, 4, 0));
    }

    private static void fitsBesideBends() {
        LeatherRoom notch = room(0, 0, 30, 0, 30, 30, 20, 30, 20, 10, 10, 10, 10, 30, 0, 30);
        kind(notch, 1, 1, 0, 0, 12, 0, 12, 12, 0, 12);
        kind(notch, 1, 1, 0, 0, 10, 0, 10, 10, 0, 10);
        kind(notch, 1, 1, SQUARE);
        Check.due("7 in a leg", 1, () -> fits(notch, 1, 0, 20, 0));
        Check.due("7 across the notch, its corners on the rim", 0, () -> fits(notch, 1, 10, 10, 0));
        Check.due("7 over one side of it", 0, () -> fits(notch, 1, 9, 10, 0));
        Check.due("7 below it", 1, () -> fits(notch, 1, 10, 0, 0));
        Check.due("7 in the notch", 0, () -> fits(notch, 2, 15, 15, 0));
        Check.due("7 round its corner", 0, () -> fits(notch, 0, 5, 5, 0));
        Check.due("7 too wide for any place", 0, () -> fits(notch, 0, 0, 0, 0));
        LeatherRoom thorn = room(0, 0, 20, 0, 20, 20, 11, 20, 10, 1, 9, 20, 0, 20);
        kind(thorn, 1, 1, 0, 0, 8, 0, 8, 8, 0, 8);
        kind(thorn, 1, 1, 0, 0, 12, 0, 12, 1, 0, 1);
        Check.due("7 no corner of either within the other, but sides cross", 0,
                () -> fits(thorn, 0, 6, 10, 0));
        Check.due("7 the thorn's point is inside", 0, () -> fits(thorn, 0, 6, 0, 0));
        Check.due("7 the thorn's point touches", 1, () -> fits(thorn, 1, 4, 0, 0));
        LeatherRoom cleft = room(0, 0, 8, 0, 8, 8, 4, 4, 0, 8);
        kind(cleft, 1, 1, 0, 0, 8, 0, 8, 8, 0, 8);
        kind(cleft, 1, 1, 0, 0, 8, 0, 8, 4, 0, 4);
        Check.due("7 all corners on the rim, a cleft between", 0, () -> fits(cleft, 0, 0, 0, 0));
        Check.due("7 up to the cleft", 1, () -> fits(cleft, 1, 0, 0, 0));
        LeatherRoom straight = room(0, 0, 4, 0, 8, 0, 8, 4, 8, 8, 0, 8);
        kind(straight, 1, 1, 0, 0, 8, 0, 8, 8, 0, 8);
        Check.due("7 the hide itself, with corners on straight ways", 1,
                () -> fits(straight, 0, 0, 0, 0));
        LeatherRoom two = room(0, 0, 4, 0, 4, 4, 8, 4, 8, 8, 0, 8);
        kind(two, 1, 1, 0, 0, 4, 0, 4, 4, 0, 4);
        Check.due("7 just the piece that is cut out", 0, () -> fits(two, 0, 4, 0, 0));
        Check.due("7 beside it", 1, () -> fits(two, 0, 4, 4, 0));
    }

    private static void fitsOffZones() {
        LeatherRoom room = room(BIG);
        for (int grade = 1; grade <= 4; grade++) {
            kind(room, grade, 15, 0, 0, 2, 0, 2, 2, 0, 2);
        }
        for (int grade = 1; grade <= 3; grade++) {
            int x = 10 * grade - 10;
            zone(room, grade, x, 10, x + 4, 10, x + 4, 14, x, 14);
        }
        for (int needed = 1; needed <= 4; needed++) {
            for (int grade = 1; grade <= 3; grade++) {
                int kind = needed - 1;
                int x = 10 * grade - 10;
                Check.due("7 grade " + needed + " in zone " + grade, grade < needed ? 0 : 1,
                        () -> fits(room, kind, x + 1, 11, 0));
                Check.due("7 half in it", grade < needed ? 0 : 1,
                        () -> fits(room, kind, x + 3, 13, 0));
                Check.due("7 beside it", 1, () -> fits(room, kind, x + 4, 11, 0));
                Check.due("7 above it", 1, () -> fits(room, kind, x + 1, 14, 0));
            }
        }
        LeatherRoom slant = room(BIG);
        kind(slant, 4, 1, 0, 0, 3, 0, 3, 3, 0, 3);
        zone(slant, 3, 10, 20, 20, 10, 20, 20);
        Check.due("7 corner on a zone's slant", 1, () -> fits(slant, 0, 12, 12, 0));
        Check.due("7 corner within a zone's slant", 0, () -> fits(slant, 0, 13, 12, 0));
        zone(slant, 3, 1, 1, 2, 1, 1, 2);
        Check.due("7 a zone within the part", 0, () -> fits(slant, 0, 0, 0, 0));
    }

    private static void fitsBesideParts() {
        LeatherRoom room = room(BIG);
        kind(room, 1, 15, TRIANGLE);
        kind(room, 1, 1, 0, 0, 5, 0, 5, 5, 0, 5);
        kind(room, 1, 1, 0, 1, 12, 0, 12, 1);
        room.put(0, 10, 10, 0);
        Check.due("7 the same place", 0, () -> fits(room, 0, 10, 10, 0));
        Check.due("7 its other half", 1, () -> fits(room, 0, 10, 10, 2));
        Check.due("7 one lower", 0, () -> fits(room, 0, 10, 9, 2));
        Check.due("7 a corner at a corner", 1, () -> fits(room, 1, 15, 10, 0));
        Check.due("7 boxes overlap only", 1, () -> fits(room, 1, 13, 12, 0));
        Check.due("7 and then shapes", 0, () -> fits(room, 1, 12, 12, 0));
        Check.due("7 crossing without corners within", 0, () -> fits(room, 2, 6, 11, 0));
        room.take(0);
        Check.due("7 not beside one that is gone", 1, () -> fits(room, 0, 10, 10, 0));
    }

    private static void fitsInTurns() {
        LeatherRoom room = room(0, 0, 7, 0, 7, 3, 0, 3);
        kind(room, 1, 5, 0, 0, 3, 0, 3, 7, 0, 7);
        kind(room, 1, 10, 0, 0, 3, 0, 3, 7, 0, 7);
        for (int turn = 0; turn < 4; turn++) {
            int t = turn;
            Check.due("7 not its turn, or too high", 0, () -> fits(room, 0, 0, 0, t));
            Check.due("7 its turn", turn % 2, () -> fits(room, 1, 0, 0, t));
        }
        // Each hide is the kind (0 0, 4 1, 1 2) in one turn, so it fits there in that turn alone.
        int[][] hides = {
            {0, 0, 4, 1, 1, 2}, {2, 0, 1, 4, 0, 1}, {4, 2, 0, 1, 3, 0}, {0, 4, 1, 0, 2, 3},
        };
        for (int right = 0; right < 4; right++) {
            LeatherRoom tight = room(hides[right]);
            kind(tight, 1, 15, 3, 5, 7, 6, 4, 7);
            for (int turn = 0; turn < 4; turn++) {
                int t = turn;
                Check.due("7 turn " + turn + " in " + right, turn == right ? 1 : 0,
                        () -> fits(tight, 0, 0, 0, t));
            }
        }
    }

    private static void fitsRefuses() {
        LeatherRoom room = room(BIG);
        kind(room, 1, 1, SQUARE);
        Check.refused("7 kind below", ARGUMENT, () -> fits(room, -1, 0, 0, 0));
        Check.refused("7 kind above", ARGUMENT, () -> fits(room, 1, 0, 0, 0));
        Check.refused("7 kind far above", ARGUMENT, () -> fits(room, 99, 0, 0, 0));
        Check.refused("7 x below", ARGUMENT, () -> fits(room, 0, -1, 0, 0));
        Check.refused("7 x above", ARGUMENT, () -> fits(room, 0, 31, 0, 0));
        Check.refused("7 y below", ARGUMENT, () -> fits(room, 0, 0, -1, 0));
        Check.refused("7 y above", ARGUMENT, () -> fits(room, 0, 0, 31, 0));
        Check.refused("7 turn below", ARGUMENT, () -> fits(room, 0, 0, 0, -1));
        Check.refused("7 turn above", ARGUMENT, () -> fits(room, 0, 0, 0, 4));
        Check.due("7 a turn that is not its", 0, () -> fits(room, 0, 0, 0, 3));
        Check.due("7 the last point", 0, () -> fits(room, 0, 30, 30, 0));
        Check.due("7 the last that fits", 1, () -> fits(room, 0, 29, 29, 0));
    }

    private static void best() {
        LeatherRoom room = room(0, 3, 9, 3, 9, 12, 5, 12, 5, 5, 0, 5);
        kind(room, 1, 15, 0, 0, 2, 0, 2, 2, 0, 2);
        kind(room, 1, 15, 0, 0, 3, 0, 3, 4, 0, 4);
        kind(room, 1, 15, 0, 0, 12, 0, 0, 12);
        Check.refused("8 kind below", ARGUMENT, () -> room.best(-1));
        Check.refused("8 kind above", ARGUMENT, () -> room.best(3));
        Check.due("8 least y, then least x", 32 * 3, () -> room.best(0));
        Check.due("8 it does not stay", 32 * 3, () -> room.best(0));
        Check.due("8 where it has room", 5 + 32 * 3, () -> room.best(1));
        Check.refused("8 nowhere", ELEMENT, () -> room.best(2));
        room.put(0, 0, 3, 0);
        Check.due("8 lower is before more left", 2 + 32 * 3, () -> room.best(0));
        LeatherRoom last = room(29, 29, 30, 29, 30, 30, 29, 30);
        kind(last, 4, 8, SQUARE);
        Check.due("8 the last place of all", 29 + 32 * 29 + 1024 * 3, () -> last.best(0));
        LeatherRoom full = room(BIG);
        kind(full, 1, 1, SQUARE);
        for (int i = 0; i < 12; i++) {
            full.lay(0);
        }
        Check.due("8 also when 12 parts lie there", 12, () -> full.best(0));
    }

    private static void bestByTurn() {
        LeatherRoom room = room(BIG);
        kind(room, 1, 15, TRIANGLE);
        kind(room, 1, 10, TRIANGLE);
        Check.due("8 least turn", 0, () -> room.best(0));
        Check.due("8 least of its turns", 1024, () -> room.best(1));
        room.put(0, 0, 0, 0);
        Check.due("8 x before turn", 1024 * 2, () -> room.best(0));
        LeatherRoom low = room(0, 0, 30, 0, 30, 4, 12, 4, 12, 30, 0, 30);
        kind(low, 1, 3, 0, 0, 4, 0, 4, 12, 0, 12);
        low.put(0, 0, 0, 0);
        low.put(0, 4, 0, 0);
        low.put(0, 8, 0, 0);
        Check.due("8 y before turn and x", 12 + 1024, () -> low.best(0));
    }

    private static void lay() {
        LeatherRoom room = room(0, 0, 12, 0, 12, 12, 0, 12);
        kind(room, 1, 15, TRIANGLE);
        kind(room, 1, 1, SQUARE);
        Check.refused("9 kind below", ARGUMENT, () -> room.lay(-1));
        Check.refused("9 kind above", ARGUMENT, () -> room.lay(2));
        lies(room, 0, 0, 0, 0);
        lies(room, 1, 0, 0, 2);
        lies(room, 2, 5, 0, 0);
        lies(room, 3, 5, 0, 2);
        lies(room, 4, 7, 3, 2);
        Check.due("9 five lie there", 5, room::parts);
        room.take(1);
        lies(room, 1, 0, 0, 2);
        room.take(2);
        room.take(0);
        lies(room, 0, 0, 0, 0);
        lies(room, 2, 5, 0, 0);
        for (int i = 5; i < 12; i++) {
            int number = i;
            Check.due("9 a square", number, () -> room.lay(1));
        }
        Check.refused("9 twelve lie there", STATE, () -> room.lay(1));
        Check.refused("9 argument before state", ARGUMENT, () -> room.lay(2));
        Check.due("9 nothing was laid", 12, room::parts);
        LeatherRoom small = room(0, 0, 2, 0, 2, 6, 0, 6);
        kind(small, 1, 15, TRIANGLE);
        kind(small, 1, 15, 0, 0, 1, 0, 0, 1);
        Check.refused("9 nowhere", ELEMENT, () -> small.lay(0));
        Check.due("9 none was laid", 0, small::parts);
        for (int i = 0; i < 12; i++) {
            small.lay(1);
        }
        Check.refused("9 state before nowhere", STATE, () -> small.lay(0));
    }

    /** The next part of kind 0 has this number, and lies there. */
    private static void lies(LeatherRoom room, int number, int x, int y, int turn) {
        String name = "9 part " + number + ": ";
        Check.due(name + "best", x + 32 * y + 1024 * turn, () -> room.best(0));
        Check.due(name + "number", number, () -> room.lay(0));
        Check.due(name + "kind", 0, () -> room.part(number, 0));
        Check.due(name + "x", x, () -> room.part(number, 1));
        Check.due(name + "y", y, () -> room.part(number, 2));
        Check.due(name + "turn", turn, () -> room.part(number, 3));
    }

    private static void put() {
        LeatherRoom room = room(BIG);
        kind(room, 1, 7, SQUARE);
        Check.refused("10 kind below", ARGUMENT, () -> room.put(-1, 0, 0, 0));
        Check.refused("10 kind above", ARGUMENT, () -> room.put(1, 0, 0, 0));
        Check.refused("10 x below", ARGUMENT, () -> room.put(0, -1, 0, 0));
        Check.refused("10 x above", ARGUMENT, () -> room.put(0, 31, 0, 0));
        Check.refused("10 y below", ARGUMENT, () -> room.put(0, 0, -1, 0));
        Check.refused("10 y above", ARGUMENT, () -> room.put(0, 0, 31, 0));
        Check.refused("10 turn below", ARGUMENT, () -> room.put(0, 0, 0, -1));
        Check.refused("10 turn above", ARGUMENT, () -> room.put(0, 0, 0, 4));
        Check.refused("10 not its turn", OPERATION, () -> room.put(0, 0, 0, 3));
        Check.refused("10 off the hide", OPERATION, () -> room.put(0, 30, 30, 0));
        Check.due("10 none was laid", 0, room::parts);
        Check.due("10 first", 0, () -> room.put(0, 7, 9, 2));
        Check.due("10 x", 7, () -> room.part(0, 1));
        Check.due("10 y", 9, () -> room.part(0, 2));
        Check.due("10 turn", 2, () -> room.part(0, 3));
        Check.refused("10 again", OPERATION, () -> room.put(0, 7, 9, 0));
        for (int i = 1; i < 12; i++) {
            int number = i;
            Check.due("10 number", number, () -> room.put(0, 2 * number, 0, 0));
        }
        Check.refused("10 twelve lie there", STATE, () -> room.put(0, 20, 20, 0));
        Check.refused("10 state before fitting", STATE, () -> room.put(0, 7, 9, 0));
        Check.refused("10 argument before state", ARGUMENT, () -> room.put(0, 7, 9, 4));
        room.take(8);
        room.take(3);
        Check.due("10 the least free number", 3, () -> room.put(0, 20, 20, 0));
        Check.due("10 the next", 8, () -> room.put(0, 22, 20, 0));
    }

    private static void take() {
        LeatherRoom room = room(BIG);
        kind(room, 1, 1, SQUARE);
        kind(room, 1, 1, TRIANGLE);
        Check.refused("11 none", ELEMENT, () -> room.take(0));
        room.lay(0);
        room.lay(1);
        Check.due("11 its kind", 1, () -> room.take(1));
        Check.refused("11 again", ELEMENT, () -> room.take(1));
        Check.due("11 one less", 1, room::parts);
        Check.due("11 its place is free", 1, () -> room.best(1));
        Check.due("11 the other", 0, () -> room.take(0));
        Check.refused("11 number below", ELEMENT, () -> room.take(-1));
        Check.refused("11 number above", ELEMENT, () -> room.take(12));
        Check.refused("11 number far above", ELEMENT, () -> room.take(Integer.MAX_VALUE));
        Check.due("11 all is free", 1800, room::free);
    }

    private static void strip() {
        LeatherRoom room = room(BIG);
        Check.due("12 none", 0, room::strip);
        kind(room, 1, 1, SQUARE);
        zone(room, 1, 5, 5, 9, 5, 5, 9);
        for (int i = 0; i < 12; i++) {
            room.lay(0);
        }
        room.take(4);
        room.corner(3, 3);
        Check.due("12 how many they were", 11, room::strip);
        Check.due("12 none is left", 0, room::parts);
        Check.refused("12 not the last", ELEMENT, () -> room.take(11));
        Check.due("12 again", 0, room::strip);
        Check.due("12 the place is free", 0, () -> room.best(0));
        Check.due("12 numbers from 0", 0, () -> room.lay(0));
        Check.due("12 corners wait on", 2, () -> room.corner(4, 4));
        room.strip();
        Check.due("12 zones stay", 2, () -> zone(room, 1, 3, 4));
    }

    private static void part() {
        LeatherRoom room = room(BIG);
        kind(room, 1, 1, SQUARE);
        kind(room, 1, 4, TRIANGLE);
        room.put(0, 1, 2, 0);
        room.put(1, 20, 25, 2);
        int[] want = {1, 20, 25, 2};
        for (int i = 0; i < 4; i++) {
            int what = i;
            Check.due("13 what " + what, want[what], () -> room.part(1, what));
            Check.refused("13 no such part", ELEMENT, () -> room.part(2, what));
        }
        Check.refused("13 what below", ARGUMENT, () -> room.part(1, -1));
        Check.refused("13 what above", ARGUMENT, () -> room.part(1, 4));
        Check.refused("13 argument before element", ARGUMENT, () -> room.part(2, 4));
        Check.refused("13 part below", ELEMENT, () -> room.part(-1, 0));
        Check.refused("13 part above", ELEMENT, () -> room.part(12, 0));
        room.take(0);
        Check.refused("13 one that is gone", ELEMENT, () -> room.part(0, 0));
        Check.due("13 the other keeps its number", 25, () -> room.part(1, 2));
    }

    private static void parts() {
        LeatherRoom room = room(BIG);
        kind(room, 1, 1, SQUARE);
        for (int i = 0; i < 12; i++) {
            int before = i;
            Check.due("14 so many", before, room::parts);
            room.lay(0);
        }
        Check.due("14 twelve", 12, room::parts);
        room.take(0);
        Check.due("14 eleven", 11, room::parts);
    }

    private static void free() {
        LeatherRoom room = new LeatherRoom();
        kind(room, 1, 15, TRIANGLE);
        kind(room, 1, 15, 2, 0, 0, 1, 1, 3);
        Check.due("15 without a hide", 0, room::free);
        hide(room, 5, 0, 17, 6, 15, 25, 9, 12, 2, 19);
        Check.due("15 a hide alone", 372, room::free);
        hide(room, 2, 19, 9, 12, 15, 25, 17, 6, 5, 0);
        Check.due("15 the other way round", 372, room::free);
        zone(room, 1, 5, 5, 9, 5, 5, 9);
        Check.due("15 zones do not count", 372, room::free);
        room.lay(0);
        Check.due("15 less a part", 347, room::free);
        room.lay(1);
        Check.due("15 less a part whose corners go to the right", 342, room::free);
        room.take(0);
        Check.due("15 with one taken", 367, room::free);
        room.strip();
        Check.due("15 with all taken", 372, room::free);
        LeatherRoom all = room(0, 0, 12, 0, 12, 12, 0, 12);
        kind(all, 1, 1, 0, 12, 12, 12, 12, 0, 0, 0);
        all.lay(0);
        Check.due("15 nothing is left", 0, all::free);
    }

    private static LeatherRoom room(int... hide) {
        LeatherRoom room = new LeatherRoom();
        hide(room, hide);
        return room;
    }

    private static int hide(LeatherRoom room, int... corners) {
        offer(room, corners);
        room.hide();
        return 0;
    }

    private static int zone(LeatherRoom room, int grade, int... corners) {
        offer(room, corners);
        return room.zone(grade);
    }

    private static int kind(LeatherRoom room, int grade, int turns, int... corners) {
        offer(room, corners);
        return room.kind(grade, turns);
    }

    private static void offer(LeatherRoom room, int... corners) {
        for (int i = 0; i < corners.length; i += 2) {
            room.corner(corners[i], corners[i + 1]);
        }
    }

    private static int fits(LeatherRoom room, int kind, int x, int y, int turn) {
        return room.fits(kind, x, y, turn) ? 1 : 0;
    }
}
