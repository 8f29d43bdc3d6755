import java.io.IOException;
import java.lang.reflect.Constructor;
import java.lang.reflect.Field;
import java.lang.reflect.Method;
import java.lang.reflect.Modifier;
import java.nio.file.Files;
import java.nio.file.Path;
import java.util.HashSet;
import java.util.Set;
import java.util.TreeSet;

/** The public face of the document's code block, and those rules of the language that can be read off. */
public final class FaceTest {
    private static final String[] FACE = {
        "boolean mode(char) IllegalArgumentException IllegalStateException",
        "int down(int) IndexOutOfBoundsException UnsupportedOperationException",
        "int up(int) IndexOutOfBoundsException UnsupportedOperationException IllegalStateException",
        "int stroke(int) IllegalArgumentException IllegalStateException",
        "int undo() NoSuchElementException",
        "int strokes()",
        "int strokeAt(int) IndexOutOfBoundsException",
        "int chord(int) IllegalArgumentException IllegalStateException",
        "int sign(char) IllegalArgumentException IllegalStateException",
        "int wipe()",
        "boolean entry(int) IndexOutOfBoundsException UnsupportedOperationException IllegalStateException",
        "int alternative(int,char) IndexOutOfBoundsException IllegalArgumentException UnsupportedOperationException IllegalStateException",
        "boolean remove(int) IndexOutOfBoundsException",
        "boolean turn(int,boolean) IndexOutOfBoundsException",
        "int entries(int) IndexOutOfBoundsException",
        "int word() UnsupportedOperationException IllegalStateException",
        "boolean isWord()",
        "int rule(char) IllegalArgumentException UnsupportedOperationException",
        "int forget()",
        "int length()",
        "char at(int) IndexOutOfBoundsException",
        "int time(int) IndexOutOfBoundsException",
        "int words()",
        "int translations()",
        "int strokesOf(int) IndexOutOfBoundsException",
        "int layerOf(int) IndexOutOfBoundsException",
        "int chosen(int) IndexOutOfBoundsException",
        "int fromOf(int) IndexOutOfBoundsException",
        "int tick() IllegalStateException",
        "int now()",
        "int sink(int) IllegalArgumentException IllegalStateException",
        "int shown(int) IndexOutOfBoundsException",
        "char shownAt(int,int) IndexOutOfBoundsException NoSuchElementException",
        "int takenBack(int) IndexOutOfBoundsException",
        "int paper(int,int) IllegalArgumentException",
        "int lines()",
        "int lineOf(int) IndexOutOfBoundsException",
        "int pageOf(int) IndexOutOfBoundsException",
        "int contract(int) IllegalArgumentException UnsupportedOperationException IllegalStateException",
        "int brailleLength()",
        "int cellAt(int) IndexOutOfBoundsException",
        "int misses()",
        "int nearest(int) IllegalArgumentException NoSuchElementException",
        "int saving()",
        "float brief() ArithmeticException",
        "double delay() ArithmeticException",
        "long checksum()",
        "boolean isSound()",
    };

    public static void main(String[] args) throws IOException {
        Due.is("public and final", Stenohall.class.getModifiers(), Modifier.PUBLIC | Modifier.FINAL);
        face();
        nested();
        source(Files.readString(Path.of("src/main/java/Stenohall.java")));
        Due.end();
    }

    private static void face() {
        Set<String> found = new TreeSet<>();
        for (Method m : Stenohall.class.getDeclaredMethods()) {
            if (!Modifier.isPrivate(m.getModifiers())) {
                Due.is(m.getName() + " is public alone", m.getModifiers(), Modifier.PUBLIC);
                found.add(told(m));
            }
        }
        Due.is("the face", found, new TreeSet<>(java.util.List.of(FACE)));
        for (Field f : Stenohall.class.getDeclaredFields()) {
            Due.is(f.getName() + " is private", Modifier.isPrivate(f.getModifiers()), true);
        }
        Constructor<?>[] constructors = Stenohall.class.getDeclaredConstructors();
        Due.is("constructors", constructors.length, 1);
        Due.is("its parameters", constructors[0].getParameterCount(), 0);
    }

    private static String told(Method m) {
        StringBuilder s = new StringBuilder(m.getReturnType().getName()).append(' ').append(m.getName()).append('(');
        for (int i = 0; i < m.getParameterCount(); i++) {
            s.append(i > 0 ? "," : "").append(m.getParameterTypes()[i].getName());
        }
        s.append(')');
        for (Class<?> e : m.getExceptionTypes()) {
            s.append(' ').append(e.getSimpleName());
        }
        return s.toString();
    }

    /** No other method bears a name of the face, static fields are final, and classes are few. */
    private static void nested() {
        Set<String> names = new HashSet<>();
        for (String line : FACE) {
            names.add(line.substring(line.indexOf(' ') + 1, line.indexOf('(')));
        }
        Set<Class<?>> all = new HashSet<>(java.util.List.of(Stenohall.class.getDeclaredClasses()));
        Due.is("twelve classes at most", all.size() <= 11, true);
        all.add(Stenohall.class);
        for (Class<?> c : all) {
            for (Method m : c.getDeclaredMethods()) {
                boolean isOfFace = c == Stenohall.class && Modifier.isPublic(m.getModifiers());
                Due.is(c.getName() + "." + m.getName() + " has a name of its own", isOfFace || !names.contains(m.getName()), true);
                Due.is(m.getName() + " has few parameters", m.getParameterCount() <= 7, true);
            }
            int fields = 0;
            for (Field f : c.getDeclaredFields()) {
                boolean isStatic = Modifier.isStatic(f.getModifiers());
                Due.is(f.getName() + " is final, if static", !isStatic || Modifier.isFinal(f.getModifiers()), true);
                fields += isStatic ? 0 : 1;
            }
            Due.is(c.getName() + " has few fields", fields <= 20, true);
        }
    }

    private static void source(String text) {
        for (String word : new String[] {"->", "::", "catch", "finally", "assert", "synchronized", "import java.util.*", "static {",
            "Exact(", "@Override", "package ", "toString", "hashCode", "var ", "\" +", "+ \""}) {
            Due.is("the source has " + word, text.contains(word), false);
        }
        for (char c : text.toCharArray()) {
            if (c > 126 || c < 32 && c != '\n') {
                Due.is("a sign of the source", (int) c, "plain");
            }
        }
        int length = 0;
        for (String line : text.split("\n")) {
            length = line.isEmpty() ? 0 : length + 1;
            if (length == 61) {
                Due.is("lines without an empty one", line, "60 at most");
            }
        }
    }
}
