import java.util.Arrays;

/**
 * Every shape of few corners on a small lattice, offered as a hide and as a zone: it is taken just
 * if the document's words for PLAIN and ROUND hold of its points.
 */
public final class EveryShape {
    private EveryShape() {
    }

    public static void main(String[] args) {
        everyShape(1, 3, 3);
        everyShape(2, 3, 3);
        everyShape(3, 4, 4);
        everyShape(4, 4, 3);
        everyShape(5, 3, 3);
        everyShape(6, 3, 2);
        Check.end();
    }

    private static void everyShape(int corners, int width, int height) {
        int points = width * height;
        int shapes = 1;
        for (int i = 0; i < corners; i++) {
            shapes *= points;
        }
        for (int shape = 0; shape < shapes; shape++) {
            int[][] c = new int[corners][];
            int rest = shape;
            for (int i = 0; i < corners; i++) {
                c[i] = new int[] {rest % points % width, rest % points / width};
                rest /= points;
            }
            offer(c);
        }
    }

    private static void offer(int[][] c) {
        LeatherRoom room = new LeatherRoom();
        String taken = isPlain(c) ? "0" : "throws " + Rooms.ARGUMENT.getName();
        Check.said("hide of " + Arrays.deepToString(c), taken, Check.outcome(() -> {
            addCorners(room, c);
            room.hide();
            return 0;
        }));
        taken = isRound(c) ? "1" : "throws " + Rooms.ARGUMENT.getName();
        Check.said("zone of " + Arrays.deepToString(c), taken, Check.outcome(() -> {
            addCorners(room, c);
            return room.zone(1);
        }));
    }

    private static void addCorners(LeatherRoom room, int[][] c) {
        for (int[] point : c) {
            room.corner(point[0], point[1]);
        }
    }

    /**
     * "two sides that follow one another have only the corner between them in common, and other two
     * sides nothing".
     */
    private static boolean isPlain(int[][] c) {
        int n = c.length;
        boolean isOnePoint = n == 3 && Arrays.equals(c[0], c[1]) && Arrays.equals(c[1], c[2]);
        // Three corners at one point would pass as sets of points, but have no inside to lie in.
        if (n < 3 || isOnePoint) {
            return false;
        }
        for (int i = 0; i < n; i++) {
            for (int j = i + 1; j < n; j++) {
                int[] a = c[i];
                int[] b = c[j];
                int[] afterA = c[(i + 1) % n];
                int[] afterB = c[(j + 1) % n];
                boolean apart = j > i + 1 && (j + 1) % n != i;
                if (apart && meet(a, afterA, b, afterB)) {
                    return false;
                }
                int[] between = j == i + 1 ? b : a;
                if (!apart && meetElsewhere(a, afterA, b, afterB, between)) {
                    return false;
                }
            }
        }
        return true;
    }

    /** "all corners but its own ends lie beside the straight line through it, all on one side". */
    private static boolean isRound(int[][] c) {
        int n = c.length;
        boolean left = false;
        boolean right = false;
        for (int i = 0; i < n; i++) {
            for (int k = 0; k < n; k++) {
                if (k != i && k != (i + 1) % n) {
                    int at = beside(c[i], c[(i + 1) % n], c[k]);
                    left |= at >= 0;
                    right |= at <= 0;
                }
            }
        }
        return n >= 3 && left != right;
    }

    /** Sides that meet do so at an end of one of them, or where the lines through them cross. */
    private static boolean meet(int[] a, int[] b, int[] c, int[] d) {
        boolean atEnd = isOn(a, c, d) || isOn(b, c, d) || isOn(c, a, b) || isOn(d, a, b);
        boolean firstParts = beside(a, b, c) * beside(a, b, d) < 0;
        boolean secondParts = beside(c, d, a) * beside(c, d, b) < 0;
        return atEnd || firstParts && secondParts;
    }

    /** Sides that have more than a corner in common have an end in common that is not there. */
    private static boolean meetElsewhere(int[] a, int[] b, int[] c, int[] d, int[] corner) {
        return isOn(a, c, d) && !Arrays.equals(a, corner)
                || isOn(b, c, d) && !Arrays.equals(b, corner)
                || isOn(c, a, b) && !Arrays.equals(c, corner)
                || isOn(d, a, b) && !Arrays.equals(d, corner);
    }

    private static boolean isOn(int[] p, int[] a, int[] b) {
        return beside(a, b, p) == 0
                && p[0] >= Math.min(a[0], b[0]) && p[0] <= Math.max(a[0], b[0])
                && p[1] >= Math.min(a[1], b[1]) && p[1] <= Math.max(a[1], b[1]);
    }

    private static int beside(int[] a, int[] b, int[] p) {
        return (b[0] - a[0]) * (p[1] - a[1]) - (b[1] - a[1]) * (p[0] - a[0]);
    }
}
