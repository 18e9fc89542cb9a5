import java.util.ArrayList;
import java.util.List;
import java.util.NoSuchElementException;

/** What the tests of boundary cases offer, call and expect time and again. */
final class Rooms {
    static final Class<IllegalArgumentException> ARGUMENT = IllegalArgumentException.class;
    static final Class<IllegalStateException> STATE = IllegalStateException.class;
    static final Class<NoSuchElementException> ELEMENT = NoSuchElementException.class;
    static final Class<UnsupportedOperationException> OPERATION =
            UnsupportedOperationException.class;

    static final int[] NONE = {};
    static final int[] BIG = {0, 0, 30, 0, 30, 30, 0, 30};
    static final int[] SQUARE = {0, 0, 1, 0, 1, 1, 0, 1};
    static final int[] TRIANGLE = {0, 0, 5, 0, 0, 5};

    static final Story NEW = room -> { };

    /** A hide with a bend, two zones, and kinds of which each lies somewhere else. */
    static final Story FURNISHED = room -> {
        hide(room, 2, 1, 28, 1, 28, 29, 16, 29, 16, 14, 2, 14);
        zone(room, 1, 4, 3, 9, 3, 4, 9);
        zone(room, 3, 20, 5, 25, 5, 25, 10, 20, 10);
        kind(room, 1, 15, 0, 0, 5, 0, 0, 3);
        kind(room, 2, 5, 0, 0, 3, 0, 3, 4, 0, 4);
        kind(room, 4, 2, 1, 0, 4, 1, 2, 5);
    };

    /** The same with parts of all its kinds, and a number between theirs that is free. */
    static final Story IN_USE = FURNISHED.then(room -> {
        for (int i = 0; i < 5; i++) {
            room.lay(i % 3);
        }
        room.take(1);
    });

    static final Story FULL = FURNISHED.then(room -> {
        for (int i = 0; i < 12; i++) {
            room.lay(i % 3);
        }
    });

    private Rooms() {
    }

    static int hide(LeatherRoom room, int... corners) {
        offer(room, corners);
        room.hide();
        return 0;
    }

    static int zone(LeatherRoom room, int grade, int... corners) {
        offer(room, corners);
        return room.zone(grade);
    }

    static int kind(LeatherRoom room, int grade, int turns, int... corners) {
        offer(room, corners);
        return room.kind(grade, turns);
    }

    static int clear(LeatherRoom room) {
        room.clear();
        return 0;
    }

    static int fits(LeatherRoom room, int kind, int x, int y, int turn) {
        return room.fits(kind, x, y, turn) ? 1 : 0;
    }

    static void offer(LeatherRoom room, int... corners) {
        for (int i = 0; i < corners.length; i += 2) {
            room.corner(corners[i], corners[i + 1]);
        }
    }

    static Story offered(int... corners) {
        return room -> offer(room, corners);
    }

    static LeatherRoom withHide(int... corners) {
        return offered(corners).then(LeatherRoom::hide).told();
    }

    /** The same shape from each of its corners on, in either direction. */
    static List<int[]> everyStart(int... corners) {
        int n = corners.length / 2;
        List<int[]> all = new ArrayList<>();
        for (int start = 0; start < n; start++) {
            for (int step = -1; step <= 1; step += 2) {
                int[] other = new int[2 * n];
                for (int i = 0; i < n; i++) {
                    int from = Math.floorMod(start + step * i, n);
                    other[2 * i] = corners[2 * from];
                    other[2 * i + 1] = corners[2 * from + 1];
                }
                all.add(other);
            }
        }
        return all;
    }
}
