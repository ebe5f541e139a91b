import java.io.IOException;
import java.nio.charset.StandardCharsets;
import java.nio.file.Files;
import java.nio.file.Path;
import java.util.ArrayList;
import java.util.Arrays;
import java.util.LinkedHashMap;
import java.util.LinkedHashSet;
import java.util.List;
import java.util.Map;
import java.util.Set;

/**
 * What the tests of the document's sentences share. A test bears the words of the document that it is of; at the end
 * the words are compared with the document, so that none of its sentences is left without a test by mistake.
 *
 * No object gets more than 512 calls: what it answers beyond them is free. Whoever asks for much makes a new one.
 */
final class Bounds {
    static final int BAD = -1, STATE = -2, FULL = -3, DENIED = -4, NONE = -9;
    static final int LEAST = Integer.MIN_VALUE, GREATEST = Integer.MAX_VALUE;

    /** Numbers that no heading of sample() has: 6 is gone, 7 was never there. */
    static final int[] NO_HEADINGS = {-1, 6, 7, 28, 29, 30, 31, -2, NONE, 256, 65536, -256, LEAST, LEAST + 1, GREATEST};
    static final int[] NEGATIVE = {-1, -2, NONE, -10, -256, -65536, LEAST, LEAST + 1};
    /** Indexes of what cannot be there, however much there is. */
    static final int[] LARGE = {100, 255, 256, 65535, 65536, GREATEST - 1, GREATEST};

    interface Maker { OutlineEditor make(); }

    interface Call { int on(OutlineEditor x); }

    interface CallWith { int on(OutlineEditor x, int n); }

    interface Reading { String of(OutlineEditor x); }

    private static final String DOCUMENT = "../shared/DOC.md";

    private static final Map<String, Set<String>> seen = new LinkedHashMap<>();
    private static final Set<String> failed = new LinkedHashSet<>();
    private static String section = "";
    private static String words = "";
    private static int tests;
    private static int asked;
    private static int wrong;

    private Bounds() { }

    // ---- tests and their words

    static void section(String title) {
        section = title;
        seen.put(title, new LinkedHashSet<>());
    }

    /** The test of a sentence, or of a part of one that ends with a semicolon. */
    static void test(String sentence, Runnable test) {
        words = sentence;
        tests++;
        int before = asked;
        if (!seen.get(section).add(sentence)) {
            fail("this sentence has two tests");
        }
        test.run();
        if (asked == before) {
            fail("nothing was asked");
        }
    }

    /** Sentences that tell nothing that a call could answer. */
    static void nothingToTest(String... sentences) {
        for (String sentence : sentences) {
            seen.get(section).add(sentence);
        }
    }

    private static void fail(String what) {
        wrong++;
        failed.add(section + ": " + words);
        System.out.println(section + ", \"" + words + "\": " + what);
    }

    static void due(String call, int got, int want) {
        asked++;
        if (got != want) {
            fail(call + " answered " + got + ", due is " + want);
        }
    }

    static void due(String what, String got, String want) {
        asked++;
        if (!got.equals(want)) {
            fail(what + " is '" + got + "', due is '" + want + "'");
        }
    }

    /** Ends the program, with 1 if an answer was wrong, or if the tests and the document have not the same sentences. */
    static void end() throws IOException {
        compareWithDocument();
        System.out.println(tests + " sentences tested, " + asked + " answers: "
            + (wrong == 0 ? "all as due" : wrong + " not as due, in these sentences:"));
        for (String each : failed) {
            System.out.println("- " + each);
        }
        if (wrong != 0) {
            System.exit(1);
        }
    }

    private static void compareWithDocument() throws IOException {
        Path path = Path.of(DOCUMENT);
        if (!Files.exists(path)) {
            System.out.println("there is no " + DOCUMENT + " to compare the sentences with");
            return;
        }
        Map<String, Set<String>> document = sentences(Files.readAllLines(path, StandardCharsets.UTF_8));
        for (Map.Entry<String, Set<String>> each : seen.entrySet()) {
            section = each.getKey();
            Set<String> there = document.getOrDefault(section, Set.of());
            for (String sentence : there) {
                words = sentence;
                if (!each.getValue().contains(sentence)) {
                    fail("has no test");
                }
            }
            for (String sentence : each.getValue()) {
                words = sentence;
                if (!there.contains(sentence)) {
                    fail("does not stand in the document");
                }
            }
        }
    }

    /** The sentences of each section, cut at semicolons too; signatures and titles in capitals are left out. */
    private static Map<String, Set<String>> sentences(List<String> lines) {
        Map<String, Set<String>> all = new LinkedHashMap<>();
        Set<String> here = new LinkedHashSet<>();
        for (String line : lines) {
            String text = line.startsWith("- ") ? line.substring(2).trim() : line.trim();
            if (line.startsWith("## ")) {
                here = new LinkedHashSet<>();
                all.put(text.substring(3).trim(), here);
            } else if (!line.startsWith("`") && !line.startsWith("----") && !text.equals(text.toUpperCase())) {
                for (String sentence : text.split("(?<=[.;])\\s+")) {
                    here.add(sentence.replaceAll("[.;:]+$", ""));
                }
            }
        }
        return all;
    }

    // ---- outlines

    /** An outline of headings 0, 1, 2, ... with these levels, all of the kind 0. */
    static OutlineEditor outline(int... levels) {
        OutlineEditor x = new OutlineEditor();
        for (int i = 0; i < levels.length; i++) {
            due("add while building", x.add(i, levels[i], 0), i);
        }
        return x;
    }

    /** The same with kinds. */
    static OutlineEditor kinds(int[] levels, int... kinds) {
        OutlineEditor x = new OutlineEditor();
        for (int i = 0; i < levels.length; i++) {
            due("add while building", x.add(i, levels[i], kinds[i]), i);
        }
        return x;
    }

    static int[] levels(int... levels) {
        return levels;
    }

    /** So many headings with level 1. */
    static OutlineEditor flat(int count) {
        int[] levels = new int[count];
        Arrays.fill(levels, 1);
        return outline(levels);
    }

    static OutlineEditor full() {
        return flat(30);
    }

    /**
     * Something of all: the list 0:1 1:2 2:3 3:2 4:1 5:2 with the numbers 1, 1.a, 1.a.1, 1.g, 2 and 2.a; reference 0 goes
     * from 4 to 1, reference 1 stands in 0 and is broken, as 6 is gone; of the images only 0 keeps something.
     */
    static OutlineEditor sample() {
        OutlineEditor x = outline(1, 2, 3, 2, 1, 2, 1);
        x.setKind(1, 1);
        x.setKind(3, 2);
        x.setTags(2, 5);
        x.fold(4, 1);
        x.setStart(3, 7);
        x.setScheme(2, 1);
        x.setRule(3, 7);
        x.refer(4, 1);
        x.refer(0, 6);
        x.keep(0);
        x.remove(6, 0);
        x.setFilter(4);
        write(x, "1.a");
        return x;
    }

    /** The sample, but no kind is allowed anywhere any more. */
    static OutlineEditor strict() {
        OutlineEditor x = sample();
        forbid(x);
        return x;
    }

    static void forbid(OutlineEditor x) {
        for (int kind = -1; kind <= 3; kind++) {
            x.setRule(kind, 0);
        }
    }

    /** The sample with 12 references. */
    static OutlineEditor manyReferences() {
        OutlineEditor x = sample();
        for (int k = 2; k < 12; k++) {
            due("refer while building", x.refer(k % 6, 0), k);
        }
        return x;
    }

    static void write(OutlineEditor x, String text) {
        for (int i = 0; i < text.length(); i++) {
            x.write(text.charAt(i));
        }
    }

    // ---- what can be read

    /** The list as "heading:level heading:level ...". */
    static String list(OutlineEditor x) {
        StringBuilder out = new StringBuilder();
        for (int p = 0; p < 40 && x.headingAt(p) >= 0; p++) {
            int h = x.headingAt(p);
            out.append(p == 0 ? "" : " ").append(h).append(':').append(x.heading(h, 1));
        }
        return out.toString();
    }

    static String shown(OutlineEditor x) {
        StringBuilder out = new StringBuilder();
        for (int k = 0; k < 40 && x.shownAt(k) >= 0; k++) {
            out.append(k == 0 ? "" : " ").append(x.shownAt(k));
        }
        return out.toString();
    }

    static String children(OutlineEditor x, int h) {
        StringBuilder out = new StringBuilder();
        for (int k = 0; k < 40 && x.child(h, k) >= 0; k++) {
            out.append(k == 0 ? "" : " ").append(x.child(h, k));
        }
        return out.toString();
    }

    static String number(OutlineEditor x, int h) {
        StringBuilder out = new StringBuilder();
        for (int i = 0; i < 60 && x.numberText(h, i) >= 0; i++) {
            out.append((char) x.numberText(h, i));
        }
        return out.toString();
    }

    static String text(OutlineEditor x, int k) {
        StringBuilder out = new StringBuilder();
        for (int i = 0; i < 60 && x.referenceText(k, i) >= 0; i++) {
            out.append((char) x.referenceText(k, i));
        }
        return out.toString();
    }

    /** The references as "source>target ...", with a question mark for a broken one. */
    static String references(OutlineEditor x) {
        StringBuilder out = new StringBuilder();
        for (int k = 0; k < 20 && x.reference(k, 0) >= 0; k++) {
            int target = x.reference(k, 1);
            out.append(k == 0 ? "" : " ").append(x.reference(k, 0)).append('>').append(target == NONE ? "?" : "" + target);
        }
        return out.toString();
    }

    /** All of the state that can be asked without a change. */
    static String state(OutlineEditor x) {
        StringBuilder out = new StringBuilder();
        for (int what = 0; what <= 9; what++) {
            if (what != 7) {
                out.append(x.told(what)).append(' ');
            }
        }
        for (int p = 0; p < 40 && x.headingAt(p) >= 0; p++) {
            int h = x.headingAt(p);
            out.append("| ").append(h);
            for (int what : new int[] {1, 2, 3, 4, 5, 12}) {
                out.append(' ').append(x.heading(h, what));
            }
        }
        return out.append("| shown ").append(shown(x)).append("| references ").append(references(x)).toString();
    }

    /** The schemes and rules, which answer only to a change, and whether the text is a heading's number. */
    static String hidden(OutlineEditor x) {
        StringBuilder out = new StringBuilder("find ").append(x.find(0)).append(' ').append(x.find(1)).append(" rules");
        for (int kind = -1; kind <= 3; kind++) {
            out.append(' ').append(x.setRule(kind, 15));
        }
        out.append(" schemes");
        for (int level = 1; level <= 6; level++) {
            out.append(' ').append(x.setScheme(level, 0));
        }
        return out.toString();
    }

    private static String undone(OutlineEditor x, int times) {
        StringBuilder out = new StringBuilder();
        for (int i = 0; i < times; i++) {
            out.append("undo ").append(x.undo()).append(' ');
        }
        return out.append(state(x)).toString();
    }

    private static List<Reading> readings() {
        List<Reading> all = new ArrayList<>();
        all.add(x -> "changes " + x.told(7) + " " + state(x));
        all.add(Bounds::hidden);
        for (int image = 0; image <= 1; image++) {
            int i = image;
            all.add(x -> "back " + x.back(i) + " " + state(x));
        }
        for (int times = 1; times <= 9; times++) {
            int n = times;
            all.add(x -> undone(x, n));
        }
        return all;
    }

    // ---- refused calls and changes

    /** The call answers the code, and afterwards all is as with a second object that had no such call. */
    static void refused(Maker maker, String call, Call refused, int code) {
        for (Reading reading : readings()) {
            OutlineEditor with = maker.make();
            OutlineEditor without = maker.make();
            due(call, refused.on(with), code);
            due("what stands after the refused " + call, reading.of(with), reading.of(without));
        }
    }

    /** Some numbers just outside of a range, and some far away from it that look like small ones if they are cut. */
    static int[] outside(int least, int greatest) {
        return new int[] {least - 1, greatest + 1, least - 2, greatest + 2, least - 256, greatest + 256, least + 65536,
            LEAST, LEAST + 1, LEAST + greatest, GREATEST - 1, GREATEST};
    }

    /** With each of these arguments the call is refused on the sample, with BAD. */
    static void bad(String call, int[] arguments, CallWith refused) {
        for (int n : arguments) {
            refused(Bounds::sample, call.replace("#", "" + n), x -> refused.on(x, n), BAD);
        }
    }

    /** The call answers so, records the state before it, and undo() brings all of that back. */
    static void change(Maker maker, String call, Call change, int answer) {
        OutlineEditor x = maker.make();
        int after = Math.min(8, x.told(7) + 1);
        due(call, change.on(x), answer);
        due("told(7) after " + call, x.told(7), after);
        due("undo() of " + call, x.undo(), after - 1);
        due("what stands after undo() of " + call, state(x), state(maker.make()));
        OutlineEditor y = maker.make();
        change.on(y);
        y.undo();
        due("what stands after undo() of " + call, hidden(y), hidden(maker.make()));
    }

    /** The call answers so and records nothing. */
    static void noChange(Maker maker, String call, Call other, int answer) {
        OutlineEditor x = maker.make();
        int before = x.told(7);
        due(call, other.on(x), answer);
        due("told(7) after " + call, x.told(7), before);
    }
}
