import java.io.IOException;
import java.lang.reflect.Constructor;
import java.lang.reflect.Field;
import java.lang.reflect.Method;
import java.lang.reflect.Modifier;
import java.nio.file.Files;
import java.nio.file.Path;
import java.util.Arrays;
import java.util.HashSet;
import java.util.List;
import java.util.Set;
import java.util.TreeSet;

/** The public face, and that no other member of the class can be seen. */
public final class FaceTest {
    private static final Due due = new Due("FaceTest");
    private static final String[] FACE = {
        "int add(int, int, long)", "int clear(int)", "int size(int)", "int at(int, int)",
        "int begin(int, int, int)", "int take(int, int)", "int fill(int, int, int, int)",
        "int output(int, int, int, long)", "int copy(int, int)", "int told(int, int)",
        "int chain(int, int, int)", "int grow(int, int, int)", "int spoil(int, int)", "int shorten(int)",
        "int root(int)", "int prove(int)", "int proof(int)", "int forge(int, int)", "int cut(int)",
        "int check(int, int, int)"
    };

    public static void main(String[] args) throws IOException {
        wordForWord();
        due.is("the class", Modifier.toString(TreeHashes.class.getModifiers()), "public final");
        constants();
        methods();
        Constructor<?>[] all = TreeHashes.class.getDeclaredConstructors();
        due.is("constructors", Arrays.toString(all), "[public TreeHashes()]");
        classesInside();
        due.end();
    }

    /** Each line of the document's face, the names of the parameters too, is a line of the class. */
    private static void wordForWord() throws IOException {
        List<String> document = Files.readAllLines(Path.of("../shared/DOC.md"));
        List<String> program = Files.readAllLines(Path.of("src/main/java/TreeHashes.java"));
        int line = document.indexOf("## The public face");
        line = line + document.subList(line, document.size()).indexOf("```java") + 1;
        int seen = 0;
        for (; !document.get(line).equals("```"); line++) {
            String face = document.get(line);
            String written = face.endsWith(");") ? face.replace(");", ") {") : face;
            due.is("the program has '" + written + "'", program.contains(written) ? 1 : 0, 1);
            seen++;
        }
        due.is("lines of the document's face", seen, 2 + 3 + 1 + FACE.length);
    }

    private static void constants() {
        due.is("NONE", TreeHashes.NONE, -1);
        due.is("BAD", TreeHashes.BAD, -2);
        due.is("REFUSED", TreeHashes.REFUSED, -3);
        Set<String> seen = new TreeSet<>();
        for (Field f : TreeHashes.class.getDeclaredFields()) {
            if (!Modifier.isPrivate(f.getModifiers())) {
                seen.add(f.toString());
            }
        }
        due.is("fields", seen.toString(), "[public static final int TreeHashes.BAD, "
            + "public static final int TreeHashes.NONE, public static final int TreeHashes.REFUSED]");
    }

    private static void methods() {
        Set<String> seen = new TreeSet<>();
        Set<String> names = new HashSet<>();
        for (Method m : TreeHashes.class.getDeclaredMethods()) {
            if (!Modifier.isPrivate(m.getModifiers())) {
                String parameters = Arrays.toString(m.getParameterTypes());
                String inside = parameters.substring(1, parameters.length() - 1);
                seen.add(m.getReturnType() + " " + m.getName() + "(" + inside + ")");
                names.add(m.getName());
                due.is(m.getName(), Modifier.toString(m.getModifiers()), "public");
            }
        }
        due.is("methods", seen.toString(), new TreeSet<>(Arrays.asList(FACE)).toString());
        for (Method m : TreeHashes.class.getDeclaredMethods()) {
            boolean clashes = Modifier.isPrivate(m.getModifiers()) && names.contains(m.getName());
            due.is("private " + m.getName() + " bears a public name", clashes ? 1 : 0, 0);
        }
    }

    private static void classesInside() {
        for (Class<?> inside : TreeHashes.class.getDeclaredClasses()) {
            due.is(inside.getName() + " is static", Modifier.isStatic(inside.getModifiers()) ? 1 : 0, 1);
            due.is(inside.getName() + " is public", Modifier.isPublic(inside.getModifiers()) ? 1 : 0, 0);
        }
    }
}
