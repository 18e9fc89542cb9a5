import java.util.ArrayList;
import java.util.List;
import java.util.NoSuchElementException;

/**
 * The document once more, by other means than the program: it measures areas of what shapes have in
 * common, tries every place, and keeps nothing but what it was told.
 */
final class SlowRoom {
    /**
     * What two shapes of whole coordinates have in common is a shape between lines with whole
     * coefficients: if it has an area at all, that is above 1 / (2 * 720^3), some 1.3e-9.
     */
    private static final double NO_AREA = 1e-10;

    private record Zone(int[][] corners, int grade) {
    }

    private record Kind(int[][] corners, int grade, int turns) {
    }

    private record Part(int kind, int x, int y, int turn, int[][] corners) {
    }

    private final List<int[]> waiting = new ArrayList<>();
    private final List<Zone> zones = new ArrayList<>();
    private final List<Kind> kinds = new ArrayList<>();
    private final Part[] parts = new Part[12];
    private int[][] hide = new int[0][];

    int corner(int x, int y) {
        if (x < 0 || x > 30 || y < 0 || y > 30) {
            throw new IllegalArgumentException();
        }
        if (waiting.size() == 12) {
            throw new IllegalStateException();
        }
        waiting.add(new int[] {x, y});
        return waiting.size();
    }

    void hide() {
        if (parts() > 0) {
            throw new IllegalStateException();
        }
        int[][] corners = endWait();
        if (!isPlain(corners)) {
            throw new IllegalArgumentException();
        }
        hide = corners;
    }

    int zone(int grade) {
        if (grade < 1 || grade > 3) {
            throw new IllegalArgumentException();
        }
        int[][] corners = endWait();
        if (!isRound(corners)) {
            throw new IllegalArgumentException();
        }
        if (zones.size() == 5 || parts() > 0) {
            throw new IllegalStateException();
        }
        zones.add(new Zone(corners, grade));
        return zones.size();
    }

    void clear() {
        if (parts() > 0) {
            throw new IllegalStateException();
        }
        zones.clear();
    }

    int kind(int grade, int turns) {
        if (grade < 1 || grade > 4 || turns < 1 || turns > 15) {
            throw new IllegalArgumentException();
        }
        int[][] corners = endWait();
        boolean small = true;
        for (int[] c : corners) {
            small &= c[0] <= 12 && c[1] <= 12;
        }
        if (!small || !isRound(corners)) {
            throw new IllegalArgumentException();
        }
        if (kinds.size() == 6) {
            throw new IllegalStateException();
        }
        kinds.add(new Kind(corners, grade, turns));
        return kinds.size() - 1;
    }

    boolean fits(int kind, int x, int y, int turn) {
        checkPlace(kind, x, y, turn);
        return isGood(kinds.get(kind), x, y, turn);
    }

    int best(int kind) {
        checkPlace(kind, 0, 0, 0);
        for (int y = 0; y <= 30; y++) {
            for (int x = 0; x <= 30; x++) {
                for (int turn = 0; turn <= 3; turn++) {
                    if (isGood(kinds.get(kind), x, y, turn)) {
                        return x + 32 * y + 1024 * turn;
                    }
                }
            }
        }
        throw new NoSuchElementException();
    }

    int lay(int kind) {
        checkPlace(kind, 0, 0, 0);
        checkRoom();
        int place = best(kind);
        return add(kind, place & 31, place >> 5 & 31, place >> 10);
    }

    int put(int kind, int x, int y, int turn) {
        checkPlace(kind, x, y, turn);
        checkRoom();
        if (!isGood(kinds.get(kind), x, y, turn)) {
            throw new UnsupportedOperationException();
        }
        return add(kind, x, y, turn);
    }

    int take(int part) {
        Part old = find(part);
        parts[part] = null;
        return old.kind();
    }

    int strip() {
        int before = parts();
        java.util.Arrays.fill(parts, null);
        return before;
    }

    int part(int part, int what) {
        if (what < 0 || what > 3) {
            throw new IllegalArgumentException();
        }
        Part p = find(part);
        return new int[] {p.kind(), p.x(), p.y(), p.turn()}[what];
    }

    int parts() {
        int sum = 0;
        for (Part p : parts) {
            sum += p == null ? 0 : 1;
        }
        return sum;
    }

    int free() {
        double area = size(reals(hide));
        for (Part p : parts) {
            area -= p == null ? 0 : size(reals(p.corners()));
        }
        return (int) Math.round(2 * area);
    }

    private void checkPlace(int kind, int x, int y, int turn) {
        boolean known = kind >= 0 && kind < kinds.size();
        if (!known || x < 0 || x > 30 || y < 0 || y > 30 || turn < 0 || turn > 3) {
            throw new IllegalArgumentException();
        }
    }

    private void checkRoom() {
        if (parts() == 12) {
            throw new IllegalStateException();
        }
    }

    private Part find(int part) {
        if (part < 0 || part > 11 || parts[part] == null) {
            throw new NoSuchElementException();
        }
        return parts[part];
    }

    private int add(int kind, int x, int y, int turn) {
        int number = 0;
        while (parts[number] != null) {
            number++;
        }
        parts[number] = new Part(kind, x, y, turn, at(kinds.get(kind), x, y, turn));
        return number;
    }

    private int[][] endWait() {
        int[][] corners = waiting.toArray(new int[0][]);
        waiting.clear();
        return corners;
    }

    private boolean isGood(Kind kind, int x, int y, int turn) {
        if ((kind.turns() & 1 << turn) == 0) {
            return false;
        }
        int[][] piece = at(kind, x, y, turn);
        for (Part p : parts) {
            if (p != null && common(piece, p.corners()) > NO_AREA) {
                return false;
            }
        }
        for (Zone z : zones) {
            if (z.grade() < kind.grade() && common(piece, z.corners()) > NO_AREA) {
                return false;
            }
        }
        return size(reals(piece)) - common(piece, hide) < NO_AREA;
    }

    private static int[][] at(Kind kind, int x, int y, int turn) {
        int n = kind.corners().length;
        int[][] turned = new int[n][];
        int leastX = Integer.MAX_VALUE;
        int leastY = Integer.MAX_VALUE;
        for (int i = 0; i < n; i++) {
            int[] c = kind.corners()[i].clone();
            for (int t = 0; t < turn; t++) {
                c = new int[] {-c[1], c[0]};
            }
            turned[i] = c;
            leastX = Math.min(leastX, c[0]);
            leastY = Math.min(leastY, c[1]);
        }
        for (int[] c : turned) {
            c[0] += x - leastX;
            c[1] += y - leastY;
        }
        return turned;
    }

    /** All corners differ, and no two sides meet but where one begins and the other ends. */
    static boolean isPlain(int[][] c) {
        int n = c.length;
        if (n < 3 || n > 12) {
            return false;
        }
        for (int i = 0; i < n; i++) {
            for (int j = 0; j < i; j++) {
                if (c[i][0] == c[j][0] && c[i][1] == c[j][1]) {
                    return false;
                }
            }
        }
        for (int i = 0; i < n; i++) {
            for (int j = 0; j < n; j++) {
                boolean isEnd = j == i || j == (i + 1) % n;
                if (!isEnd && isOn(c[j], c[i], c[(i + 1) % n])) {
                    return false;
                }
                if (crosses(c[i], c[(i + 1) % n], c[j], c[(j + 1) % n])) {
                    return false;
                }
            }
        }
        return true;
    }

    /** A plain shape that bends at every corner, and always the same way. */
    static boolean isRound(int[][] c) {
        int n = c.length;
        if (n > 6 || !isPlain(c)) {
            return false;
        }
        int bends = 0;
        for (int i = 0; i < n; i++) {
            bends += Integer.signum(bend(c[i], c[(i + 1) % n], c[(i + 2) % n]));
        }
        return Math.abs(bends) == n;
    }

    private static int bend(int[] a, int[] b, int[] c) {
        return (b[0] - a[0]) * (c[1] - a[1]) - (b[1] - a[1]) * (c[0] - a[0]);
    }

    private static boolean isOn(int[] p, int[] a, int[] b) {
        double toA = Math.hypot(p[0] - a[0], p[1] - a[1]);
        double toB = Math.hypot(p[0] - b[0], p[1] - b[1]);
        return toA + toB - Math.hypot(a[0] - b[0], a[1] - b[1]) < 1e-9;
    }

    /** Whether two sides cross at a point that is an end of neither. */
    private static boolean crosses(int[] a, int[] b, int[] c, int[] d) {
        long ways = (long) bend(a, b, c) * bend(a, b, d);
        long back = (long) bend(c, d, a) * bend(c, d, b);
        return ways < 0 && back < 0;
    }

    /**
     * The area that a round piece has in common with a plain shape: the triangles from the origin
     * to the shape's sides, with their signs, add up to the shape.
     */
    private static double common(int[][] piece, int[][] shape) {
        double[][] start = reals(piece);
        double sum = 0;
        for (int i = 0; i < shape.length; i++) {
            int[] a = shape[i];
            int[] b = shape[(i + 1) % shape.length];
            int sign = Integer.signum(a[0] * b[1] - a[1] * b[0]);
            if (sign != 0) {
                int[] from = sign > 0 ? a : b;
                int[] to = sign > 0 ? b : a;
                int[] origin = {0, 0};
                sum += sign * size(cut(cut(cut(start, origin, from), from, to), to, origin));
            }
        }
        return Math.abs(sum);
    }

    /** What of a round shape lies to the left of a line. */
    private static double[][] cut(double[][] shape, int[] a, int[] b) {
        List<double[]> kept = new ArrayList<>();
        for (int i = 0; i < shape.length; i++) {
            double[] p = shape[i];
            double[] q = shape[(i + 1) % shape.length];
            double pLeft = left(a, b, p);
            double qLeft = left(a, b, q);
            if (pLeft >= 0) {
                kept.add(p);
            }
            if (pLeft > 0 && qLeft < 0 || pLeft < 0 && qLeft > 0) {
                double share = pLeft / (pLeft - qLeft);
                kept.add(new double[] {p[0] + share * (q[0] - p[0]), p[1] + share * (q[1] - p[1])});
            }
        }
        return kept.toArray(new double[0][]);
    }

    private static double left(int[] a, int[] b, double[] p) {
        return (b[0] - a[0]) * (p[1] - a[1]) - (b[1] - a[1]) * (p[0] - a[0]);
    }

    private static double size(double[][] c) {
        double sum = 0;
        for (int i = 0; i < c.length; i++) {
            double[] a = c[i];
            double[] b = c[(i + 1) % c.length];
            sum += a[0] * b[1] - a[1] * b[0];
        }
        return Math.abs(sum) / 2;
    }

    private static double[][] reals(int[][] c) {
        double[][] r = new double[c.length][];
        for (int i = 0; i < c.length; i++) {
            r[i] = new double[] {c[i][0], c[i][1]};
        }
        return r;
    }
}
