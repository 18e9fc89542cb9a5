import java.util.Random;

/** Runs of calls, the same each time, on the program and on SlowRoom: the answers are alike. */
public final class AgainstSlowRoom {
    private static final int RUNS = 400;
    private static final int CALLS = 100;

    private final Random random;
    private final String name;
    private final LeatherRoom room = new LeatherRoom();
    private final SlowRoom slow = new SlowRoom();

    private AgainstSlowRoom(int run) {
        random = new Random(run);
        name = "run " + run + " ";
    }

    public static void main(String[] args) {
        for (int run = 0; run < RUNS && Check.wrong() == 0; run++) {
            new AgainstSlowRoom(run).run();
        }
        Check.end();
    }

    private void run() {
        offerHide();
        for (int k = upTo(4); k >= 0; k--) {
            offerRound(12);
            kind(1 + upTo(3), 1 + upTo(14));
        }
        for (int k = upTo(3); k > 0; k--) {
            offerRound(30);
            zone(1 + upTo(2));
        }
        for (int call = 0; call < CALLS; call++) {
            anyCall();
        }
    }

    private void anyCall() {
        int kind = random.nextInt(25) == 0 ? upTo(8) - 1 : upTo(3);
        int x = random.nextInt(40) == 0 ? upTo(40) - 5 : upTo(30);
        int y = random.nextInt(40) == 0 ? upTo(40) - 5 : upTo(30);
        int turn = random.nextInt(40) == 0 ? upTo(6) - 1 : upTo(3);
        switch (upTo(23)) {
            case 0 -> anyCorners();
            case 1 -> newHide();
            case 2 -> newZone();
            case 3 -> newKind();
            case 4 -> Check.same(name + "clear", () -> {
                slow.clear();
                return 0;
            }, () -> {
                room.clear();
                return 0;
            });
            case 5, 6, 7, 8 -> lay(kind);
            case 9, 10 -> put(kind, x, y, turn);
            case 11 -> touching(kind);
            case 12 -> best(kind);
            case 13, 14 -> take(upTo(13) - 1);
            case 15 -> {
                if (upTo(3) == 0) {
                    Check.same(name + "strip", slow::strip, room::strip);
                }
            }
            case 16 -> part(upTo(13) - 1, upTo(5) - 1);
            case 17 -> Check.same(name + "parts", slow::parts, room::parts);
            case 18 -> Check.same(name + "free", slow::free, room::free);
            default -> fits(kind, x, y, turn);
        }
    }

    private void newHide() {
        if (upTo(2) == 0) {
            Check.same(name + "strip", slow::strip, room::strip);
        }
        offerHide();
    }

    private void newZone() {
        if (upTo(1) == 0) {
            Check.same(name + "strip", slow::strip, room::strip);
        }
        offerRound(30);
        zone(upTo(4));
    }

    private void newKind() {
        offerRound(upTo(3) == 0 ? 14 : 12);
        kind(upTo(5), upTo(7) == 0 ? upTo(20) - 2 : 1 + upTo(14));
    }

    /** Places round the parts that lie there, where rims touch or nearly do. */
    private void touching(int kind) {
        if (slow.parts() == 0) {
            return;
        }
        int part = upTo(11);
        int baseX;
        int baseY;
        try {
            baseX = slow.part(part, 1);
            baseY = slow.part(part, 2);
        } catch (RuntimeException e) {
            return;
        }
        for (int k = 0; k < 12; k++) {
            fits(kind, baseX + upTo(24) - 12, baseY + upTo(24) - 12, upTo(3));
        }
    }

    private void anyCorners() {
        for (int k = upTo(13); k > 0; k--) {
            corner(upTo(33) - 1, upTo(30));
        }
    }

    private void offerHide() {
        switch (upTo(5)) {
            case 0 -> anyShape(3 + upTo(9), 30);
            case 1 -> steps();
            case 2 -> anyShape(3 + upTo(2), 30);
            case 3 -> anyShape(3 + upTo(3), 5);
            default -> star(3 + upTo(9));
        }
        Check.same(name + "hide", () -> {
            slow.hide();
            return 0;
        }, () -> {
            room.hide();
            return 0;
        });
    }

    /** A hide of right angles, which many parts touch. */
    private void steps() {
        int x1 = 3 + upTo(10);
        int x2 = x1 + 1 + upTo(10);
        int y1 = 3 + upTo(10);
        int y2 = y1 + 1 + upTo(10);
        int[][] points = {
            {0, 0}, {30, 0}, {30, y2}, {x2, y2}, {x2, y1}, {x1, y1}, {x1, 30}, {0, 30},
        };
        for (int[] p : points) {
            corner(p[0], p[1]);
        }
    }

    /** Corners round a point by their angles: most often a plain shape. */
    private void star(int n) {
        double start = random.nextDouble() * 6;
        int way = upTo(1) == 0 ? 1 : -1;
        for (int i = 0; i < n; i++) {
            double angle = start + way * 2 * Math.PI * i / n;
            double far = 6 + 9 * random.nextDouble();
            int x = (int) Math.round(15 + far * Math.cos(angle));
            int y = (int) Math.round(15 + far * Math.sin(angle));
            corner(x, y);
        }
    }

    private void anyShape(int n, int most) {
        for (int i = 0; i < n; i++) {
            corner(upTo(most), upTo(most));
        }
    }

    /** Mostly a round shape within a box from the origin. */
    private void offerRound(int most) {
        int w = 1 + upTo(most - 1);
        int h = 1 + upTo(most - 1);
        int dx = upTo(most - w);
        int dy = upTo(most - h);
        int a = upTo(w);
        int b = upTo(h);
        int[][] points = switch (upTo(5)) {
            case 0 -> new int[][] {{0, 0}, {w, 0}, {w, h}, {0, h}};
            case 1 -> new int[][] {{0, 0}, {w, b}, {a, h}};
            case 2 -> new int[][] {{0, 0}, {0, h}, {a, b}};
            case 3 -> new int[][] {{a, 0}, {w, b}, {w - a, h}, {0, h - b}};
            case 4 -> new int[][] {{a, 0}, {w, 0}, {w, h - b}, {w - a, h}, {0, h}, {0, b}};
            default -> new int[][] {{a, upTo(h)}, {upTo(w), b}, {upTo(w), upTo(h)}, {a, b}};
        };
        for (int[] p : points) {
            corner(p[0] + dx, p[1] + dy);
        }
    }

    private void corner(int x, int y) {
        Check.same(name + "corner " + x + " " + y,
                () -> slow.corner(x, y), () -> room.corner(x, y));
    }

    private void zone(int grade) {
        Check.same(name + "zone " + grade, () -> slow.zone(grade), () -> room.zone(grade));
    }

    private void kind(int grade, int turns) {
        Check.same(name + "kind " + grade + " " + turns, () -> slow.kind(grade, turns),
                () -> room.kind(grade, turns));
    }

    private void fits(int kind, int x, int y, int turn) {
        Check.same(name + "fits " + kind + " " + x + " " + y + " " + turn,
                () -> slow.fits(kind, x, y, turn) ? 1 : 0,
                () -> room.fits(kind, x, y, turn) ? 1 : 0);
    }

    private void best(int kind) {
        Check.same(name + "best " + kind, () -> slow.best(kind), () -> room.best(kind));
    }

    private void lay(int kind) {
        Check.same(name + "lay " + kind, () -> slow.lay(kind), () -> room.lay(kind));
        for (int what = 0; what < 4; what++) {
            part(slow.parts() - 1, what);
        }
    }

    private void put(int kind, int x, int y, int turn) {
        Check.same(name + "put " + kind + " " + x + " " + y + " " + turn,
                () -> slow.put(kind, x, y, turn), () -> room.put(kind, x, y, turn));
    }

    private void take(int part) {
        Check.same(name + "take " + part, () -> slow.take(part), () -> room.take(part));
    }

    private void part(int part, int what) {
        Check.same(name + "part " + part + " " + what,
                () -> slow.part(part, what), () -> room.part(part, what));
    }

    private int upTo(int most) {
        return random.nextInt(most + 1);
    }
}
