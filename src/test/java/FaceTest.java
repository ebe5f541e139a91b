import java.io.IOException;
import java.lang.reflect.Constructor;
import java.lang.reflect.Field;
import java.lang.reflect.Method;
import java.lang.reflect.Modifier;
import java.nio.charset.StandardCharsets;
import java.nio.file.Files;
import java.nio.file.Path;
import java.util.HashSet;
import java.util.Set;
import java.util.TreeSet;
import java.util.regex.Matcher;
import java.util.regex.Pattern;

/** The public face of the document, and the rules of LANGUAGE.md that can be seen from outside or in the source's words. */
public final class FaceTest {
    private static final String SOURCE = "src/main/java/OutlineEditor.java";

    /** Each method with the number of its parameters, all of them int, as is the answer. */
    private static final String[] METHODS = {"add 3", "remove 2", "promote 1", "demote 1", "drag 3", "setKind 2", "setTags 2",
        "fold 2", "setStart 2", "setScheme 2", "setRule 2", "setFilter 1", "undo 0", "refer 2", "forget 1", "reference 2",
        "referenceText 2", "told 1", "headingAt 1", "shownAt 1", "heading 2", "child 2", "numberText 2", "write 1", "wipe 0",
        "find 1", "keep 1", "back 1"};
    private static final String[] CONSTANTS = {"BAD -1", "STATE -2", "FULL -3", "DENIED -4", "NONE -9"};
    private static final String[] FORBIDDEN_WORDS = {"throw", "throws", "try", "catch", "finally", "synchronized", "assert",
        "import", "package", "protected", "volatile", "native", "strictfp", "hashCode", "toString", "Thread", "Random"};

    private static int wrong = 0;

    public static void main(String[] args) throws Exception {
        members();
        nestedClasses();
        source();
        System.out.println(wrong == 0 ? "the face is as due" : wrong + " things are not as due");
        if (wrong != 0) {
            System.exit(1);
        }
    }

    private static void due(boolean holds, String what) {
        if (!holds) {
            wrong++;
            System.out.println("not as due: " + what);
        }
    }

    private static void members() throws IllegalAccessException {
        Class<?> face = OutlineEditor.class;
        due(Modifier.isPublic(face.getModifiers()) && Modifier.isFinal(face.getModifiers()), "public and final");
        Set<String> methods = new TreeSet<>();
        Set<String> hidden = new HashSet<>();
        for (Method m : face.getDeclaredMethods()) {
            if (Modifier.isPrivate(m.getModifiers())) {
                hidden.add(m.getName());
                continue;
            }
            methods.add(m.getName() + " " + m.getParameterCount());
            due(Modifier.isPublic(m.getModifiers()) && !Modifier.isStatic(m.getModifiers()), m + " is public");
            due(m.getReturnType() == int.class, m + " answers int");
            for (Class<?> type : m.getParameterTypes()) {
                due(type == int.class, m + " takes int");
            }
        }
        due(methods.equals(new TreeSet<>(Set.of(METHODS))), "the methods: " + methods);
        for (String m : METHODS) {
            due(!hidden.contains(m.split(" ")[0]), "no private method bears the name of " + m);
        }
        Set<String> constants = new TreeSet<>();
        for (Field f : face.getDeclaredFields()) {
            due(!Modifier.isStatic(f.getModifiers()) || Modifier.isFinal(f.getModifiers()), f + " is final");
            if (!Modifier.isPrivate(f.getModifiers())) {
                due(Modifier.isPublic(f.getModifiers()) && Modifier.isStatic(f.getModifiers()), f + " is a public constant");
                constants.add(f.getName() + " " + f.getInt(null));
            }
        }
        due(constants.equals(new TreeSet<>(Set.of(CONSTANTS))), "the constants: " + constants);
        Constructor<?>[] makers = face.getDeclaredConstructors();
        due(makers.length == 1 && makers[0].getParameterCount() == 0 && Modifier.isPublic(makers[0].getModifiers()),
            "one public constructor without parameters");
    }

    private static void nestedClasses() {
        for (Class<?> c : OutlineEditor.class.getDeclaredClasses()) {
            due(Modifier.isStatic(c.getModifiers()), c + " is static");
            due(!Modifier.isPublic(c.getModifiers()) && !Modifier.isProtected(c.getModifiers()), c + " is not public");
            for (Field f : c.getDeclaredFields()) {
                due(!Modifier.isStatic(f.getModifiers()), f + " is not static");
            }
        }
    }

    private static void source() throws IOException {
        String text = Files.readString(Path.of(SOURCE), StandardCharsets.UTF_8);
        due(text.chars().allMatch(c -> c == '\n' || (c >= 32 && c < 127)), "plain signs alone");
        String code = text.replaceAll("(?s)/\\*.*?\\*/", " ").replaceAll("//[^\n]*", " ");
        for (String word : FORBIDDEN_WORDS) {
            due(!Pattern.compile("\\b" + word + "\\b").matcher(code).find(), "the source is without '" + word + "'");
        }
        due(!code.contains("->") && !code.contains("::"), "no lambda, no method reference");
        due(!code.contains("\""), "no texts");
        Matcher library = Pattern.compile("\\b(System|Math|Arrays|Integer|Long|String|StringBuilder)\\b(\\.\\w+)?").matcher(code);
        while (library.find()) {
            due(Set.of("System.arraycopy", "Math.min", "Math.max").contains(library.group()), "the library's " + library.group());
        }
    }
}
