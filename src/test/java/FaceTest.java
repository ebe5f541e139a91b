import java.io.IOException;
import java.lang.reflect.Constructor;
import java.lang.reflect.Field;
import java.lang.reflect.Method;
import java.lang.reflect.Modifier;
import java.nio.charset.StandardCharsets;
import java.nio.file.Files;
import java.nio.file.Path;
import java.util.HashSet;
import java.util.Set;
import java.util.TreeSet;
import java.util.regex.Matcher;
import java.util.regex.Pattern;

/** The public face of the document, and the rules of LANGUAGE.md that can be seen from outside or in the source's words. */
public final class FaceTest {
    private static final String SOURCE = "src/main/java/OutlineEditor.java";

    /** Each method with the number of its parameters, all of them int, as is the answer. */
    private static final String[] METHODS = {"add 3", "remove 2", "promote 1", "demote 1", "drag 3", "setKind 2", "setTags 2",
        "fold 2", "setStart 2", "setScheme 2", "setRule 2", "setFilter 1", "undo 0", "refer 2", "forget 1", "reference 2",
        "referenceText 2", "told 1", "headingAt 1", "shownAt 1", "heading 2", "child 2", "numberText 2", "write 1", "wipe 0",
        "find 1", "keep 1", "back 1"};
    private static final String[] CONSTANTS = {"BAD -1", "STATE -2", "FULL -3", "DENIED -4", "NONE -9"};
    private static final String[] FORBIDDEN_WORDS = {"throw", "throws", "try", "catch", "finally", "synchronized", "assert",
        "import", "package", "protected", "volatile", "native", "strictfp", "hashCode", "toString", "Thread", "Random"};

    private static int wrong = 0;

    public static void main(String[] args) throws Exception {
        members();
        nestedClasses();
        sizes();
        source();
        System.out.println(wrong == 0 ? "the face is as due" : wrong + " things are not as due");
        if (wrong != 0) {
            System.exit(1);
        }
    }

    private static void due(boolean holds, String what) {
        if (!holds) {
            wrong++;
            System.out.println("not as due: " + what);
        }
    }

    private static void members() throws IllegalAccessException {
        Class<?> face = OutlineEditor.class;
        due(Modifier.isPublic(face.getModifiers()) && Modifier.isFinal(face.getModifiers()), "public and final");
        Set<String> methods = new TreeSet<>();
        Set<String> hidden = new HashSet<>();
        for (Method m : face.getDeclaredMethods()) {
            if (Modifier.isPrivate(m.getModifiers())) {
                hidden.add(m.getName());
                continue;
            }
            methods.add(m.getName() + " " + m.getParameterCount());
            due(Modifier.isPublic(m.getModifiers()) && !Modifier.isStatic(m.getModifiers()), m + " is public");
            due(m.getReturnType() == int.class, m + " answers int");
            for (Class<?> type : m.getParameterTypes()) {
                due(type == int.class, m + " takes int");
            }
        }
        due(methods.equals(new TreeSet<>(Set.of(METHODS))), "the methods: " + methods);
        for (String m : METHODS) {
            due(!hidden.contains(m.split(" ")[0]), "no private method bears the name of " + m);
        }
        Set<String> constants = new TreeSet<>();
        for (Field f : face.getDeclaredFields()) {
            due(!Modifier.isStatic(f.getModifiers()) || Modifier.isFinal(f.getModifiers()), f + " is final");
            if (!Modifier.isPrivate(f.getModifiers())) {
                due(Modifier.isPublic(f.getModifiers()) && Modifier.isStatic(f.getModifiers()), f + " is a public constant");
                constants.add(f.getName() + " " + f.getInt(null));
            }
        }
        due(constants.equals(new TreeSet<>(Set.of(CONSTANTS))), "the constants: " + constants);
        Constructor<?>[] makers = face.getDeclaredConstructors();
        due(makers.length == 1 && makers[0].getParameterCount() == 0 && Modifier.isPublic(makers[0].getModifiers()),
            "one public constructor without parameters");
    }

    private static void nestedClasses() {
        for (Class<?> c : OutlineEditor.class.getDeclaredClasses()) {
            due(Modifier.isStatic(c.getModifiers()), c + " is static");
            due(!Modifier.isPublic(c.getModifiers()) && !Modifier.isProtected(c.getModifiers()), c + " is not public");
            for (Field f : c.getDeclaredFields()) {
                due(!Modifier.isStatic(f.getModifiers()), f + " is not static");
            }
        }
    }

    /** Rule 11: parameters, fields beside constants, and classes. */
    private static void sizes() {
        Class<?>[] nested = OutlineEditor.class.getDeclaredClasses();
        due(nested.length + 1 <= 12, "at most 12 classes");
        for (int i = -1; i < nested.length; i++) {
            Class<?> c = i < 0 ? OutlineEditor.class : nested[i];
            int fields = 0;
            for (Field f : c.getDeclaredFields()) {
                fields += Modifier.isStatic(f.getModifiers()) ? 0 : 1;
            }
            due(fields <= 20, c + " has at most 20 fields: " + fields);
            for (Method m : c.getDeclaredMethods()) {
                due(m.getParameterCount() <= 7, m + " has at most 7 parameters");
            }
        }
    }

    /** Rule 11: a method goes from a line that opens it to the brace that stands as far in. */
    private static void lengths(String text) {
        Matcher method = Pattern.compile("(?m)^( {4}| {8})(?! )(?!.*\\bclass\\b)[^\n]*\\) \\{\n((?s).*?)^\\1\\}").matcher(text);
        int found = 0;
        while (method.find()) {
            found++;
            long lines = method.group().lines().count();
            due(lines <= 60, "at most 60 lines: " + method.group().lines().findFirst().orElse("") + " has " + lines);
        }
        due(found > 60, "the methods are found: " + found);
    }

    private static void source() throws IOException {
        String text = Files.readString(Path.of(SOURCE), StandardCharsets.UTF_8);
        lengths(text);
        due(text.chars().allMatch(c -> c == '\n' || (c >= 32 && c < 127)), "plain signs alone");
        String code = text.replaceAll("(?s)/\\*.*?\\*/", " ").replaceAll("//[^\n]*", " ");
        for (String word : FORBIDDEN_WORDS) {
            due(!Pattern.compile("\\b" + word + "\\b").matcher(code).find(), "the source is without '" + word + "'");
        }
        due(!code.contains("->") && !code.contains("::"), "no lambda, no method reference");
        due(!code.contains("\""), "no texts");
        Matcher library = Pattern.compile("\\b(System|Math|Arrays|Integer|Long|String|StringBuilder)\\b(\\.\\w+)?").matcher(code);
        while (library.find()) {
            due(Set.of("System.arraycopy", "Math.min", "Math.max").contains(library.group()), "the library's " + library.group());
        }
    }
}
