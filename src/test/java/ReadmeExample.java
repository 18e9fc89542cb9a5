import java.io.IOException;
import java.nio.file.Files;
import java.nio.file.Path;

/** The example in README.md: its lines are those that stand here, and answer what they say. */
public final class ReadmeExample {
    private ReadmeExample() {
    }

    public static void main(String[] args) throws IOException {
        LeatherRoom room = new LeatherRoom();
        room.corner(0, 0);
        room.corner(20, 0);
        room.corner(20, 10);
        room.corner(0, 10);
        room.hide();
        room.corner(0, 0);
        room.corner(2, 0);
        room.corner(2, 5);
        room.corner(0, 5);
        int zones = room.zone(1);
        room.corner(0, 0);
        room.corner(4, 0);
        room.corner(0, 3);
        int kind = room.kind(2, 15);
        int place = room.best(kind);
        int part = room.lay(kind);
        int x = room.part(part, 1);
        int left = room.free();
        Check.due("zones", 1, () -> zones);
        Check.due("kind", 0, () -> kind);
        Check.due("place", 2, () -> place);
        Check.due("part", 0, () -> part);
        Check.due("x", 2, () -> x);
        Check.due("left", 388, () -> left);
        Check.said("the lines in README.md", code("src/test/java/ReadmeExample.java",
                "args) throws IOException {", "Check."), code("README.md", "```java", "```"));
        Check.end();
    }

    /** The lines between two marks, without what is said about them. */
    private static String code(String file, String begin, String end) throws IOException {
        StringBuilder code = new StringBuilder();
        boolean within = false;
        for (String line : Files.readAllLines(Path.of(file))) {
            if (within && line.strip().startsWith(end)) {
                return code.toString();
            }
            if (within) {
                code.append(line.replaceFirst("//.*", "").strip()).append('\n');
            }
            within = within || line.endsWith(begin);
        }
        return "no end of " + file;
    }
}
