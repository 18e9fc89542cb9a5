import java.lang.reflect.Field;
import java.lang.reflect.Method;
import java.lang.reflect.Modifier;
import java.util.Arrays;
import java.util.HashSet;
import java.util.Set;
import java.util.TreeSet;

/** The class has the document's public face, and nothing else that others could see or use. */
public final class Face {
    private static final String[] METHODS = {
        "public boolean LeatherRoom.fits(int,int,int,int)"
                + " throws java.lang.IllegalArgumentException",
        "public int LeatherRoom.best(int)"
                + " throws java.lang.IllegalArgumentException,java.util.NoSuchElementException",
        "public int LeatherRoom.corner(int,int)"
                + " throws java.lang.IllegalArgumentException,java.lang.IllegalStateException",
        "public int LeatherRoom.free()",
        "public int LeatherRoom.kind(int,int)"
                + " throws java.lang.IllegalArgumentException,java.lang.IllegalStateException",
        "public int LeatherRoom.lay(int) throws java.lang.IllegalArgumentException,"
                + "java.lang.IllegalStateException,java.util.NoSuchElementException",
        "public int LeatherRoom.part(int,int)"
                + " throws java.lang.IllegalArgumentException,java.util.NoSuchElementException",
        "public int LeatherRoom.parts()",
        "public int LeatherRoom.put(int,int,int,int) throws java.lang.IllegalArgumentException,"
                + "java.lang.IllegalStateException,java.lang.UnsupportedOperationException",
        "public int LeatherRoom.strip()",
        "public int LeatherRoom.take(int) throws java.util.NoSuchElementException",
        "public int LeatherRoom.zone(int)"
                + " throws java.lang.IllegalArgumentException,java.lang.IllegalStateException",
        "public void LeatherRoom.clear() throws java.lang.IllegalStateException",
        "public void LeatherRoom.hide()"
                + " throws java.lang.IllegalStateException,java.lang.IllegalArgumentException",
    };

    private Face() {
    }

    public static void main(String[] args) {
        Set<String> open = new TreeSet<>();
        Set<String> openNames = new HashSet<>();
        for (Method m : LeatherRoom.class.getDeclaredMethods()) {
            if (!Modifier.isPrivate(m.getModifiers())) {
                open.add(m.toString());
                openNames.add(m.getName());
            }
        }
        Check.said("methods", new TreeSet<>(Arrays.asList(METHODS)).toString(), open.toString());
        for (Method m : LeatherRoom.class.getDeclaredMethods()) {
            boolean hides = Modifier.isPrivate(m.getModifiers()) && openNames.contains(m.getName());
            Check.said("private " + m.getName() + " has a public name", "false", "" + hides);
        }
        for (Field f : LeatherRoom.class.getDeclaredFields()) {
            boolean keepsToItself = Modifier.isPrivate(f.getModifiers())
                    && (!Modifier.isStatic(f.getModifiers()) || Modifier.isFinal(f.getModifiers()));
            Check.said("field " + f.getName() + " is private, and final if static", "true",
                    "" + keepsToItself);
        }
        Check.said("constructors", "[public LeatherRoom()]",
                Arrays.toString(LeatherRoom.class.getDeclaredConstructors()));
        int modifiers = LeatherRoom.class.getModifiers();
        Check.said("class", "public final", Modifier.toString(modifiers));
        for (Class<?> inside : LeatherRoom.class.getDeclaredClasses()) {
            Check.said(inside.getName() + " is static", "true",
                    "" + Modifier.isStatic(inside.getModifiers()));
        }
        Check.end();
    }
}
