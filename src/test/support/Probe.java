import java.util.LinkedHashMap;
import java.util.Map;

/**
 * All that can be found out of an object after a story. Each few questions go to an object of
 * their own, since none is used for more than 512 calls, and since some questions change it.
 */
final class Probe {
    private static final int ROWS_AT_ONCE = 3;

    private final Story story;
    private final Map<String, String> answers = new LinkedHashMap<>();

    private Probe(Story story) {
        this.story = story;
        look();
        places();
        takeAll();
        waiting();
        more();
    }

    /** After two stories an object answers alike, whatever it is asked. */
    static void alike(String name, Story want, Story got) {
        Map<String, String> due = new Probe(want).answers;
        Map<String, String> seen = new Probe(got).answers;
        for (Map.Entry<String, String> e : due.entrySet()) {
            String other = seen.get(e.getKey());
            if (!e.getValue().equals(other)) {
                Check.said(name + ", then " + e.getKey(), e.getValue(), other);
                return;
            }
        }
        Check.said(name, "alike", "alike");
    }

    private void ask(String question, Check.Call call) {
        answers.put(question, Check.outcome(call));
    }

    private void look() {
        LeatherRoom room = story.told();
        ask("parts", room::parts);
        ask("free", room::free);
        for (int part = 0; part < 12; part++) {
            for (int what = 0; what < 4; what++) {
                int number = part;
                int which = what;
                ask("part " + number + " " + which, () -> room.part(number, which));
            }
        }
        for (int kind = 0; kind < 7; kind++) {
            int number = kind;
            ask("best " + number, () -> room.best(number));
        }
    }

    private void places() {
        for (int kind = 0; kind < 6; kind++) {
            for (int y = 0; y <= 30; y += ROWS_AT_ONCE) {
                LeatherRoom room = story.told();
                for (int row = y; row < y + ROWS_AT_ONCE && row <= 30; row++) {
                    answers.put("fits " + kind + " at y " + row, row(room, kind, row));
                }
            }
        }
    }

    private static String row(LeatherRoom room, int kind, int y) {
        StringBuilder turns = new StringBuilder();
        try {
            for (int x = 0; x <= 30; x++) {
                int sum = 0;
                for (int turn = 0; turn < 4; turn++) {
                    sum += Rooms.fits(room, kind, x, y, turn) << turn;
                }
                turns.append(Integer.toHexString(sum));
            }
        } catch (RuntimeException e) {
            return e.toString();
        }
        return turns.toString();
    }

    private void takeAll() {
        LeatherRoom room = story.told();
        ask("strip", room::strip);
        ask("free after strip", room::free);
        LeatherRoom other = story.told();
        for (int part = 0; part < 12; part++) {
            int number = part;
            ask("take " + number, () -> other.take(number));
        }
    }

    /** How many corners wait, and what hide they make. */
    private void waiting() {
        LeatherRoom room = story.told();
        ask("corner", () -> room.corner(7, 7));
        LeatherRoom other = story.told();
        other.strip();
        ask("hide after strip", () -> Rooms.hide(other));
        ask("free after hide", other::free);
        for (int kind = 0; kind < 6; kind++) {
            int number = kind;
            ask("best after hide " + number, () -> other.best(number));
        }
        ask("corner after hide", () -> other.corner(7, 7));
    }

    /** How many zones and kinds there is room for. */
    private void more() {
        LeatherRoom room = story.told();
        room.strip();
        Check.outcome(() -> Rooms.hide(room));
        for (int i = 1; i <= 6; i++) {
            ask("more zones " + i, () -> Rooms.zone(room, 1, Rooms.TRIANGLE));
            ask("more kinds " + i, () -> Rooms.kind(room, 1, 1, Rooms.TRIANGLE));
        }
    }
}
