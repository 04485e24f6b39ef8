import java.io.IOException;
import java.lang.reflect.Executable;
import java.lang.reflect.Field;
import java.lang.reflect.Method;
import java.lang.reflect.Modifier;
import java.nio.file.Files;
import java.nio.file.Path;
import java.util.ArrayList;
import java.util.Arrays;
import java.util.HashSet;
import java.util.List;
import java.util.Set;
import java.util.regex.Matcher;
import java.util.regex.Pattern;

/** What of ../shared/LANGUAGE.md can be seen in the class and in its text; its rules by number. */
public final class LanguageTest {
    private static final Due due = new Due("LanguageTest");
    private static final String SOURCE = "src/main/java/TreeHashes.java";
    private static final int MOST_CLASSES = 12;
    private static final int MOST_FIELDS = 20;
    private static final int MOST_PARAMETERS = 7;
    private static final int MOST_LINES = 60;

    public static void main(String[] args) throws IOException {
        List<Class<?>> classes = new ArrayList<>();
        classes.add(TreeHashes.class);
        classes.addAll(Arrays.asList(TreeHashes.class.getDeclaredClasses()));
        due.is("rule 11: at most twelve classes", classes.size() <= MOST_CLASSES ? 1 : 0, 1);
        for (Class<?> one : classes) {
            noClassDeeper(one);
            fields(one);
            parameters(one);
            noPublicName(one);
        }
        String text = withoutComments(Files.readString(Path.of(SOURCE)));
        forbiddenWords(text);
        library(text, classes);
        shortMethods(text);
        due.end();
    }

    /** Rule 2: static classes inside the one, and none inside those. */
    private static void noClassDeeper(Class<?> one) {
        if (one != TreeHashes.class) {
            due.is("rule 2: static " + one, Modifier.isStatic(one.getModifiers()) ? 1 : 0, 1);
            due.is("rule 2: classes inside " + one, one.getDeclaredClasses().length, 0);
        }
    }

    /** Rule 5: static fields are final constants or arrays of numbers; rule 11: some twenty others. */
    private static void fields(Class<?> one) {
        Set<Class<?>> constants = Set.of(int.class, long.class, boolean.class, char.class, String.class,
            int[].class, long[].class, char[].class, byte[].class);
        int own = 0;
        for (Field f : one.getDeclaredFields()) {
            if (Modifier.isStatic(f.getModifiers())) {
                due.is("rule 5: final " + f, Modifier.isFinal(f.getModifiers()) ? 1 : 0, 1);
                due.is("rule 5: type of " + f, constants.contains(f.getType()) ? 1 : 0, 1);
            } else {
                own++;
            }
        }
        due.is("rule 11: at most twenty fields in " + one, own <= MOST_FIELDS ? 1 : 0, 1);
    }

    /** Rule 11: at most seven parameters. */
    private static void parameters(Class<?> one) {
        List<Executable> all = new ArrayList<>(Arrays.asList(one.getDeclaredMethods()));
        all.addAll(Arrays.asList(one.getDeclaredConstructors()));
        for (Executable e : all) {
            due.is("rule 11: parameters of " + e, e.getParameterCount() <= MOST_PARAMETERS ? 1 : 0, 1);
        }
    }

    /** Rule 1: no private method bears the name of a public one. */
    private static void noPublicName(Class<?> one) {
        Set<String> names = new HashSet<>();
        for (Method m : TreeHashes.class.getMethods()) {
            names.add(m.getName());
        }
        for (Method m : one.getDeclaredMethods()) {
            boolean clashes = !Modifier.isPublic(m.getModifiers()) && names.contains(m.getName());
            due.is("rule 1: name of " + m, clashes ? 1 : 0, 0);
        }
    }

    private static String withoutComments(String text) {
        return text.replaceAll("(?s)/\\*.*?\\*/", "").replaceAll("//[^\n]*", "");
    }

    /** Rules 2, 3, 6 and 13: words and signs that the program may not have. */
    private static void forbiddenWords(String text) {
        String[] words = {
            "import", "package", "throw", "throws", "try", "catch", "finally", "synchronized", "assert", "volatile",
            "native", "transient", "var", "equals", "hashCode", "toString", "Thread", "Random", "System", "double",
            "float", "protected", "instanceof"
        };
        for (String word : words) {
            due.is("the word " + word, Pattern.compile("\\b" + word + "\\b").matcher(text).find() ? 1 : 0, 0);
        }
        for (String sign : new String[] {"->", "::", "@", "\"", "static {", "<T", "[][]"}) {
            due.is("the sign " + sign, text.contains(sign) ? 1 : 0, 0);
        }
    }

    /** Rule 4: of the library the program needs Math.min and Math.max alone. */
    private static void library(String text, List<Class<?>> classes) {
        Set<String> own = new HashSet<>();
        for (Class<?> one : classes) {
            own.add(one.getSimpleName());
        }
        Matcher use = Pattern.compile("\\b([A-Z][a-z]\\w*)(\\.\\w+)?").matcher(text);
        while (use.find()) {
            boolean known = own.contains(use.group(1)) || use.group().equals("Math.min") || use.group().equals("Math.max");
            due.is("rule 4: " + use.group(), known ? 1 : 0, 1);
        }
    }

    /** Rule 11: methods stay short; one begins at a line with a '{' behind ')' and ends where its indent comes again. */
    private static void shortMethods(String text) {
        String[] lines = text.split("\n");
        Pattern head = Pattern.compile("( {4}| {8})\\w[^=]*\\) \\{");
        int methods = 0;
        for (int first = 0; first < lines.length; first++) {
            Matcher m = head.matcher(lines[first]);
            if (m.matches()) {
                int last = first;
                while (last < lines.length - 1 && !lines[last].equals(m.group(1) + "}")) {
                    last++;
                }
                due.is("rule 11: length of" + lines[first], last - first < MOST_LINES ? 1 : 0, 1);
                methods++;
            }
        }
        due.is("methods found in the text", methods >= 20 ? 1 : 0, 1);
    }
}
