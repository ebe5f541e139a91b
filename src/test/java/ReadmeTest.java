import java.io.IOException;
import java.lang.reflect.Field;
import java.lang.reflect.Method;
import java.lang.reflect.Modifier;
import java.nio.charset.StandardCharsets;
import java.nio.file.Files;
import java.nio.file.Path;
import java.util.ArrayList;
import java.util.Collections;
import java.util.List;
import java.util.regex.Matcher;
import java.util.regex.Pattern;

/** README.md: its example answers as its comments say, and its tables name the whole face, with as many parameters. */
public final class ReadmeTest {
    private static int wrong = 0;

    public static void main(String[] args) throws IOException, IllegalAccessException {
        String readme = Files.readString(Path.of("README.md"), StandardCharsets.UTF_8);
        example(readme);
        tables(readme);
        System.out.println(wrong == 0 ? "README.md is as the class is" : wrong + " things in README.md are not as the class is");
        if (wrong != 0) {
            System.exit(1);
        }
    }

    private static void due(boolean holds, String what) {
        if (!holds) {
            wrong++;
            System.out.println("not as due: " + what);
        }
    }

    /** The lines of the example with what their comments begin with: the answer that is due. */
    private static void example(String readme) {
        List<String> got = new ArrayList<>();
        OutlineEditor x = new OutlineEditor();
        int first = x.add(0, 1, 0);
        got.add("int first = x.add(0, 1, 0); " + first);
        int under = x.add(1, 2, 0);
        got.add("int under = x.add(1, 2, 0); " + under);
        got.add("x.setScheme(2, 1); " + x.setScheme(2, 1));
        int k = x.refer(first, under);
        got.add("int k = x.refer(first, under); " + k);
        int sign = x.referenceText(k, 2);
        got.add("int sign = x.referenceText(k, 2); " + sign);
        due(text(x, k).equals("1.a"), "the text of the reference at first: " + text(x, k));
        got.add("x.promote(under); " + x.promote(under));
        due(text(x, k).equals("2"), "the text of the reference after promote(): " + text(x, k));
        got.add("x.undo(); " + x.undo());
        due(text(x, k).equals("1.a"), "the text of the reference after undo(): " + text(x, k));
        got.add("x.add(9, 1, 0); " + x.add(9, 1, 0));

        List<String> told = new ArrayList<>();
        String block = readme.substring(readme.indexOf("```java\n") + 8);
        block = block.substring(0, block.indexOf("```"));
        for (String line : block.split("\n")) {
            Matcher parts = Pattern.compile("(.*;) +// (-?\\d+)[:,;].*").matcher(line);
            if (parts.matches()) {
                told.add(parts.group(1) + " " + parts.group(2));
            } else {
                due(line.equals("OutlineEditor x = new OutlineEditor();"), "a line without its answer: " + line);
            }
        }
        due(told.equals(got), "the example\n  says    " + told + "\n  answers " + got);
    }

    private static String text(OutlineEditor x, int k) {
        StringBuilder out = new StringBuilder();
        for (int i = 0; x.referenceText(k, i) >= 0; i++) {
            out.append((char) x.referenceText(k, i));
        }
        return out.toString();
    }

    private static void tables(String readme) throws IllegalAccessException {
        List<String> face = new ArrayList<>();
        for (Method m : OutlineEditor.class.getDeclaredMethods()) {
            if (Modifier.isPublic(m.getModifiers())) {
                face.add(m.getName() + " " + m.getParameterCount());
            }
        }
        List<String> named = new ArrayList<>();
        for (String line : readme.split("\n")) {
            if (line.startsWith("| `")) {
                Matcher call = Pattern.compile("`(\\w+)\\(([^)]*)\\)`").matcher(line.split("\\|")[1]);
                while (call.find()) {
                    named.add(call.group(1) + " " + (call.group(2).isEmpty() ? 0 : call.group(2).split(",").length));
                }
            }
        }
        Collections.sort(face);
        Collections.sort(named);
        due(named.equals(face), "the methods of the tables: " + named);
        for (Field f : OutlineEditor.class.getDeclaredFields()) {
            if (Modifier.isPublic(f.getModifiers())) {
                due(readme.contains("\n| `" + f.getName() + "` | " + f.getInt(null) + " | "), "the constant " + f.getName());
            }
        }
    }
}
