import java.io.IOException;
import java.util.ArrayList;
import java.util.Arrays;
import java.util.List;

/** The sentences of the document's description that name a boundary case, each with a test of its own. */
public final class DescriptionBoundsTest {
    private static final int BAD = Bounds.BAD, STATE = Bounds.STATE, FULL = Bounds.FULL, DENIED = Bounds.DENIED,
        NONE = Bounds.NONE;

    private record Refusal(Bounds.Maker maker, String name, Bounds.Call call, int code) { }

    public static void main(String[] args) throws IOException {
        Bounds.section("What it is");
        Bounds.nothingToTest("An editor for outlines: headings in several levels, with numbers in several alphabets, and references "
            + "that follow their headings", "what later calls answer is free");
        Bounds.test("An object is used for at most 512 calls after it has been made", DescriptionBoundsTest::manyCalls);
        Bounds.section("Description");
        Bounds.nothingToTest(
            "The class adds, removes, promotes, demotes and drags headings together with what belongs to them, under rules about "
                + "which kinds of headings may stand in which",
            "it numbers headings by schemes that differ from level to level, restarts and skips numbers, reads numbers back, "
                + "keeps references to headings, folds parts of the outline, and filters it by tags so that the headings above "
                + "a match are shown, too",
            "Changes can be undone, and outlines can be kept",
            "Some methods are called changes below",
            "The constants",
            "The constructor and the methods follow, a promise each: the signature, then what it does");
        conventions();
        headings();
        rules();
        numbers();
        references();
        foldingAndFilters();
        changes();
        Bounds.end();
    }

    private static void due(String call, int got, int want) {
        Bounds.due(call, got, want);
    }

    private static void due(String what, String got, String want) {
        Bounds.due(what, got, want);
    }

    // ---- how long an object is used

    /** With full lists too all 512 calls are answered as due, and changes as late as these can be undone. */
    private static void manyCalls() {
        OutlineEditor x = Bounds.full();
        for (int k = 0; k < 12; k++) {
            due("refer", x.refer(29, 0), k);
        }
        for (int i = 0; i < 40; i++) {
            due("write", x.write('3'), i + 1);
        }
        int calls = 82;
        for (; calls + 6 <= 507; calls += 6) {
            due("remove(0, 1) after " + calls + " calls", x.remove(0, 1), 1);
            due("add after it", x.add(29, 2, 3), 0);
            due("drag after it", x.drag(0, 1, 0), 0);
            due("undo() of it", x.undo(), 7);
            due("undo() of add", x.undo(), 6);
            due("undo() of remove", x.undo(), 5);
            for (int i = 0; i < 3 && calls + 9 <= 507; i++, calls++) {
                due("setFilter after " + calls + " calls", x.setFilter(0), 0);
            }
        }
        for (; calls < 507; calls++) {
            due("setFilter after " + calls + " calls", x.setFilter(0), 0);
        }
        due("call 508, remove", x.remove(29, 0), 1);
        due("call 509, its references are gone", x.told(1), 0);
        due("call 510, undo", x.undo(), 7);
        due("call 511, its references are there again", x.told(1), 12);
        due("call 512, a change", x.setKind(29, 3), 0);
    }

    // ---- conventions

    private static void conventions() {
        Bounds.test("`BAD = -1, STATE = -2, FULL = -3, DENIED = -4, NONE = -9`: The error codes, and the value for \"there is none\"",
            DescriptionBoundsTest::constants);
        Bounds.test("The error codes are BAD (-1), an argument is out of its range or names something that does not exist",
            () -> answersOf(BAD, -1));
        Bounds.test("STATE (-2), the call is not possible now, as the method says", () -> answersOf(STATE, -2));
        Bounds.test("FULL (-3), a maximum would be exceeded", () -> answersOf(FULL, -3));
        Bounds.test("DENIED (-4), a rule about kinds does not allow it", () -> answersOf(DENIED, -4));
        Bounds.test("If several of them apply to one call, the first one in this list is returned",
            DescriptionBoundsTest::orderOfCodes);
        Bounds.test("A call that returns one of them changes nothing", DescriptionBoundsTest::refusedCallsChangeNothing);
        Bounds.test("NONE (-9) means that there is no such value", DescriptionBoundsTest::noSuchValue);
        Bounds.test("it is returned only if no error code applies", DescriptionBoundsTest::noneComesLast);
    }

    private static void constants() {
        due("BAD", OutlineEditor.BAD, -1);
        due("STATE", OutlineEditor.STATE, -2);
        due("FULL", OutlineEditor.FULL, -3);
        due("DENIED", OutlineEditor.DENIED, -4);
        due("NONE", OutlineEditor.NONE, -9);
    }

    /** For each method every code that it can answer, and every reason for it. */
    private static List<Refusal> refusals() {
        List<Refusal> all = new ArrayList<>();
        addBadHeadings(all);
        addBadOthers(all);
        addImpossible(all);
        addFullAndDenied(all);
        return all;
    }

    private static void bad(List<Refusal> all, String name, Bounds.Call call) {
        all.add(new Refusal(Bounds::sample, name, call, BAD));
    }

    private static void addBadHeadings(List<Refusal> all) {
        bad(all, "add(-1, 1, 0)", x -> x.add(-1, 1, 0));
        bad(all, "add(7, 1, 0)", x -> x.add(7, 1, 0));
        bad(all, "add(6, 0, 0)", x -> x.add(6, 0, 0));
        bad(all, "add(6, 7, 0)", x -> x.add(6, 7, 0));
        bad(all, "add(6, 1, -1)", x -> x.add(6, 1, -1));
        bad(all, "add(6, 1, 4)", x -> x.add(6, 1, 4));
        bad(all, "remove(6, 0)", x -> x.remove(6, 0));
        bad(all, "remove(6, 1)", x -> x.remove(6, 1));
        bad(all, "remove(0, -1)", x -> x.remove(0, -1));
        bad(all, "remove(0, 2)", x -> x.remove(0, 2));
        bad(all, "promote(6)", x -> x.promote(6));
        bad(all, "demote(6)", x -> x.demote(6));
        bad(all, "drag(6, 0, 0)", x -> x.drag(6, 0, 0));
        bad(all, "drag(0, 6, 0)", x -> x.drag(0, 6, 0));
        bad(all, "drag(5, 0, -1)", x -> x.drag(5, 0, -1));
        bad(all, "drag(5, 0, 4)", x -> x.drag(5, 0, 4));
        bad(all, "setKind(6, 0)", x -> x.setKind(6, 0));
        bad(all, "setKind(0, -1)", x -> x.setKind(0, -1));
        bad(all, "setKind(0, 4)", x -> x.setKind(0, 4));
        bad(all, "setTags(6, 0)", x -> x.setTags(6, 0));
        bad(all, "setTags(0, -1)", x -> x.setTags(0, -1));
        bad(all, "setTags(0, 32)", x -> x.setTags(0, 32));
        bad(all, "fold(6, 1)", x -> x.fold(6, 1));
        bad(all, "fold(0, -1)", x -> x.fold(0, -1));
        bad(all, "fold(0, 2)", x -> x.fold(0, 2));
        bad(all, "setStart(6, 1)", x -> x.setStart(6, 1));
        bad(all, "setStart(0, -2)", x -> x.setStart(0, -2));
        bad(all, "setStart(0, 61)", x -> x.setStart(0, 61));
        bad(all, "heading(6, 0)", x -> x.heading(6, 0));
        bad(all, "heading(0, -1)", x -> x.heading(0, -1));
        bad(all, "heading(0, 14)", x -> x.heading(0, 14));
    }

    private static void addBadOthers(List<Refusal> all) {
        bad(all, "setScheme(0, 1)", x -> x.setScheme(0, 1));
        bad(all, "setScheme(7, 1)", x -> x.setScheme(7, 1));
        bad(all, "setScheme(1, -1)", x -> x.setScheme(1, -1));
        bad(all, "setScheme(1, 6)", x -> x.setScheme(1, 6));
        bad(all, "setRule(-2, 1)", x -> x.setRule(-2, 1));
        bad(all, "setRule(4, 1)", x -> x.setRule(4, 1));
        bad(all, "setRule(0, -1)", x -> x.setRule(0, -1));
        bad(all, "setRule(0, 16)", x -> x.setRule(0, 16));
        bad(all, "setFilter(-1)", x -> x.setFilter(-1));
        bad(all, "setFilter(32)", x -> x.setFilter(32));
        bad(all, "refer(6, 0)", x -> x.refer(6, 0));
        bad(all, "refer(0, 6)", x -> x.refer(0, 6));
        bad(all, "forget(-1)", x -> x.forget(-1));
        bad(all, "forget(2)", x -> x.forget(2));
        bad(all, "reference(-1, 0)", x -> x.reference(-1, 0));
        bad(all, "reference(2, 0)", x -> x.reference(2, 0));
        bad(all, "reference(0, -1)", x -> x.reference(0, -1));
        bad(all, "reference(0, 5)", x -> x.reference(0, 5));
        bad(all, "referenceText(-1, 0)", x -> x.referenceText(-1, 0));
        bad(all, "referenceText(2, 0)", x -> x.referenceText(2, 0));
        bad(all, "referenceText(0, -1)", x -> x.referenceText(0, -1));
        bad(all, "told(-1)", x -> x.told(-1));
        bad(all, "told(10)", x -> x.told(10));
        bad(all, "headingAt(-1)", x -> x.headingAt(-1));
        bad(all, "shownAt(-1)", x -> x.shownAt(-1));
        bad(all, "child(6, 0)", x -> x.child(6, 0));
        bad(all, "child(-2, 0)", x -> x.child(-2, 0));
        bad(all, "child(0, -1)", x -> x.child(0, -1));
        bad(all, "numberText(6, 0)", x -> x.numberText(6, 0));
        bad(all, "numberText(0, -1)", x -> x.numberText(0, -1));
        bad(all, "write(31)", x -> x.write(31));
        bad(all, "write(127)", x -> x.write(127));
        bad(all, "find(-1)", x -> x.find(-1));
        bad(all, "keep(-1)", x -> x.keep(-1));
        bad(all, "keep(2)", x -> x.keep(2));
        bad(all, "back(-1)", x -> x.back(-1));
        bad(all, "back(2)", x -> x.back(2));
    }

    private static void addImpossible(List<Refusal> all) {
        all.add(new Refusal(OutlineEditor::new, "add(0, 2, 0)", x -> x.add(0, 2, 0), STATE));
        all.add(new Refusal(Bounds::sample, "add(0, 2, 0)", x -> x.add(0, 2, 0), STATE));
        all.add(new Refusal(Bounds::sample, "add(6, 4, 0)", x -> x.add(6, 4, 0), STATE));
        all.add(new Refusal(Bounds::sample, "add(2, 1, 0)", x -> x.add(2, 1, 0), STATE));
        all.add(new Refusal(Bounds::sample, "promote(0)", x -> x.promote(0), STATE));
        all.add(new Refusal(Bounds::sample, "promote(4)", x -> x.promote(4), STATE));
        all.add(new Refusal(Bounds::sample, "demote(0)", x -> x.demote(0), STATE));
        all.add(new Refusal(Bounds::sample, "demote(5)", x -> x.demote(5), STATE));
        all.add(new Refusal(DescriptionBoundsTest::deep, "demote(1)", x -> x.demote(1), STATE));
        all.add(new Refusal(Bounds::sample, "drag(1, 1, 0)", x -> x.drag(1, 1, 0), STATE));
        all.add(new Refusal(Bounds::sample, "drag(0, 2, 3)", x -> x.drag(0, 2, 3), STATE));
        all.add(new Refusal(DescriptionBoundsTest::deep, "drag(1, 0, 2)", x -> x.drag(1, 0, 2), STATE));
        all.add(new Refusal(OutlineEditor::new, "undo()", x -> x.undo(), STATE));
        all.add(new Refusal(() -> Bounds.outline(1), "find(0)", x -> x.find(0), STATE));
        all.add(new Refusal(Bounds::sample, "back(1)", x -> x.back(1), STATE));
    }

    /** A part that reaches down to level 6, behind another heading with level 1. */
    private static OutlineEditor deep() {
        return Bounds.outline(1, 1, 2, 3, 4, 5, 6);
    }

    private static OutlineEditor fullText() {
        OutlineEditor x = Bounds.outline(1);
        Bounds.write(x, "1234567890123456789012345678901234567890");
        return x;
    }

    private static void addFullAndDenied(List<Refusal> all) {
        all.add(new Refusal(Bounds::full, "add(30, 1, 0)", x -> x.add(30, 1, 0), FULL));
        all.add(new Refusal(Bounds::full, "add(0, 1, 3)", x -> x.add(0, 1, 3), FULL));
        all.add(new Refusal(Bounds::manyReferences, "refer(0, 1)", x -> x.refer(0, 1), FULL));
        all.add(new Refusal(DescriptionBoundsTest::fullText, "write(49)", x -> x.write(49), FULL));
        all.add(new Refusal(Bounds::strict, "add(6, 1, 0)", x -> x.add(6, 1, 0), DENIED));
        all.add(new Refusal(Bounds::strict, "add(6, 2, 0)", x -> x.add(6, 2, 0), DENIED));
        all.add(new Refusal(Bounds::strict, "remove(1, 1)", x -> x.remove(1, 1), DENIED));
        all.add(new Refusal(Bounds::strict, "promote(1)", x -> x.promote(1), DENIED));
        all.add(new Refusal(Bounds::strict, "demote(3)", x -> x.demote(3), DENIED));
        all.add(new Refusal(Bounds::strict, "drag(5, 0, 2)", x -> x.drag(5, 0, 2), DENIED));
        all.add(new Refusal(Bounds::strict, "drag(5, 0, 0)", x -> x.drag(5, 0, 0), DENIED));
        all.add(new Refusal(Bounds::strict, "setKind(0, 0)", x -> x.setKind(0, 0), DENIED));
    }

    private static void answersOf(int code, int number) {
        for (Refusal each : refusals()) {
            if (each.code() == code) {
                due(each.name(), each.call().on(each.maker().make()), number);
            }
        }
    }

    private static void refusedCallsChangeNothing() {
        for (Refusal each : refusals()) {
            Bounds.refused(each.maker(), each.name(), each.call(), each.code());
        }
    }

    private static void orderOfCodes() {
        OutlineEditor strict = Bounds.strict();
        due("add, BAD and STATE", strict.add(0, 2, 4), BAD);
        due("add, BAD and DENIED", strict.add(6, 1, 4), BAD);
        due("add, STATE and DENIED", strict.add(0, 2, 0), STATE);
        due("add, STATE (behind it) and DENIED", strict.add(2, 1, 0), STATE);
        due("remove, BAD and DENIED", strict.remove(1, 2), BAD);
        due("promote, STATE and DENIED", strict.promote(0), STATE);
        due("demote, STATE (first child) and DENIED", strict.demote(1), STATE);
        due("drag, BAD and STATE", strict.drag(0, 2, 4), BAD);
        due("drag, BAD and DENIED", strict.drag(5, 0, -1), BAD);
        due("drag, STATE (own part) and DENIED", strict.drag(0, 2, 0), STATE);
        due("setKind, BAD and DENIED", strict.setKind(0, 4), BAD);

        OutlineEditor deep = deep();
        Bounds.forbid(deep);
        due("demote, STATE (too deep) and DENIED", deep.demote(1), STATE);
        due("drag, STATE (too deep) and DENIED", deep.drag(1, 0, 3), STATE);

        OutlineEditor full = Bounds.full();
        due("add, BAD (place) and FULL", full.add(31, 1, 0), BAD);
        due("add, BAD (kind) and FULL", full.add(30, 1, 4), BAD);
        due("add, STATE (first) and FULL", full.add(0, 2, 0), STATE);
        due("add, STATE (last) and FULL", full.add(30, 3, 0), STATE);
        Bounds.forbid(full);
        due("add, FULL and DENIED", full.add(30, 1, 0), FULL);
        due("add, STATE, FULL and DENIED", full.add(30, 3, 0), STATE);
        due("add, BAD, STATE, FULL and DENIED", full.add(30, 3, -1), BAD);

        due("refer, BAD (source) and FULL", Bounds.manyReferences().refer(6, 0), BAD);
        due("refer, BAD (target) and FULL", Bounds.manyReferences().refer(0, 6), BAD);
        due("write, BAD and FULL", fullText().write(127), BAD);
        due("find, BAD and STATE", Bounds.outline(1).find(-1), BAD);
        due("back, BAD and STATE", new OutlineEditor().back(2), BAD);
    }

    private static void noSuchValue() {
        OutlineEditor x = Bounds.sample();
        due("reference(1, 1), broken", x.reference(1, 1), -9);
        due("reference(1, 2), broken", x.reference(1, 2), -9);
        due("reference(1, 3), broken", x.reference(1, 3), -9);
        due("referenceText(0, 3)", x.referenceText(0, 3), -9);
        due("headingAt(6)", x.headingAt(6), -9);
        due("shownAt(3)", x.shownAt(3), -9);
        due("heading(0, 7)", x.heading(0, 7), -9);
        due("child(2, 0)", x.child(2, 0), -9);
        due("child(-1, 2)", x.child(-1, 2), -9);
        due("numberText(0, 1)", x.numberText(0, 1), -9);
        due("find(1)", x.find(1), -9);
    }

    private static void noneComesLast() {
        OutlineEditor x = Bounds.sample();
        due("reference(1, 5), broken", x.reference(1, 5), BAD);
        due("reference(1, -1), broken", x.reference(1, -1), BAD);
        due("reference(2, 1), no such reference", x.reference(2, 1), BAD);
        due("referenceText(2, 50), no such reference", x.referenceText(2, 50), BAD);
        due("heading(6, 7), no such heading", x.heading(6, 7), BAD);
        due("child(6, 50), no such heading", x.child(6, 50), BAD);
        due("numberText(6, 50), no such heading", x.numberText(6, 50), BAD);
        x.wipe();
        due("find(50), no text", x.find(50), STATE);
        due("find(0), no text and no headings", new OutlineEditor().find(0), STATE);
        due("headingAt(-1), no headings", new OutlineEditor().headingAt(-1), BAD);
        due("shownAt(-1), no headings", new OutlineEditor().shownAt(-1), BAD);
        due("child(-1, -1), no headings", new OutlineEditor().child(-1, -1), BAD);
    }

    // ---- headings

    private static void headings() {
        Bounds.test("There are at most 30 headings, 0 to 29", DescriptionBoundsTest::thirtyHeadings);
        Bounds.test("a new heading gets the lowest number that no heading has", DescriptionBoundsTest::lowestNumber);
        Bounds.test("The outline is a list of all headings", DescriptionBoundsTest::listOfAll);
        Bounds.test("each one has a place in it, from 0 on, and a level from 1 to 6", DescriptionBoundsTest::placesAndLevels);
        Bounds.test("The first heading of the list has the level 1, and each other one a level that is at most that of the "
            + "heading before it plus 1", DescriptionBoundsTest::ruleAboutLevels);
        Bounds.test("The part of a heading consists of it and the headings behind it that have a greater level, up to the next "
            + "one with the same or a lower level", DescriptionBoundsTest::parts);
        Bounds.test("The parent of a heading is the nearest one before it with a lower level (none at level 1)",
            DescriptionBoundsTest::parents);
        Bounds.test("the children of a heading are those whose parent it is, in their order", DescriptionBoundsTest::childrenInOrder);
        Bounds.test("headings with the same parent are siblings", DescriptionBoundsTest::siblings);
        Bounds.test("Each heading has a kind from 0 to 3, tags (a set of the tags 0 to 4, given as a number in which bit k stands "
            + "for the tag k", DescriptionBoundsTest::kindsAndTags);
        Bounds.test("0 at first), and may be folded, unnumbered, or have a start (none of these at first)",
            DescriptionBoundsTest::atFirst);
    }

    private static void thirtyHeadings() {
        OutlineEditor x = Bounds.flat(29);
        due("the 30th", x.add(29, 1, 0), 29);
        due("told(0)", x.told(0), 30);
        due("heading(29, 0)", x.heading(29, 0), 29);
        due("heading(30, 0)", x.heading(30, 0), BAD);
        for (int at = 0; at <= 30; at++) {
            due("the 31st at " + at, x.add(at, 1, 0), FULL);
        }
        due("told(0)", x.told(0), 30);
        due("remove(7, 0)", x.remove(7, 0), 1);
        due("the 30th again", x.add(0, 1, 0), 7);
        due("the 31st again", x.add(0, 1, 0), FULL);
        due("undo()", x.undo(), 7);
        due("the 30th again", x.add(29, 2, 0), 7);
        due("the 31st again", x.add(29, 2, 0), FULL);
    }

    private static void lowestNumber() {
        OutlineEditor x = Bounds.flat(5);
        x.remove(1, 0);
        x.remove(3, 0);
        x.remove(0, 0);
        due("add, 0 is free", x.add(2, 1, 0), 0);
        due("add, 1 is free", x.add(0, 1, 0), 1);
        due("add, 3 is free", x.add(0, 1, 0), 3);
        due("add, none below 5 is free", x.add(0, 1, 0), 5);
        OutlineEditor full = Bounds.full();
        full.remove(29, 0);
        full.remove(0, 0);
        due("add, 0 and 29 are free", full.add(28, 1, 0), 0);
        due("add, 29 is free", full.add(0, 1, 0), 29);
        OutlineEditor y = Bounds.outline(1);
        y.undo();
        due("add, the only one is undone", y.add(0, 1, 0), 0);
        y.remove(0, 1);
        due("add, the only one is removed", y.add(0, 1, 0), 0);
    }

    private static void listOfAll() {
        OutlineEditor empty = new OutlineEditor();
        due("headingAt(0) of none", empty.headingAt(0), NONE);
        due("told(0) of none", empty.told(0), 0);
        OutlineEditor x = Bounds.full();
        boolean[] met = new boolean[30];
        for (int place = 0; place < 30; place++) {
            int h = x.headingAt(place);
            due("headingAt(" + place + ") once", h >= 0 && h < 30 && !met[h] ? 1 : 0, 1);
            met[h] = true;
        }
        due("headingAt(30)", x.headingAt(30), NONE);
        due("told(0)", x.told(0), 30);
    }

    private static void placesAndLevels() {
        OutlineEditor x = Bounds.outline(1, 2, 3, 4, 5, 6);
        for (int h = 0; h < 6; h++) {
            due("place of " + h, x.heading(h, 0), h);
            due("level of " + h, x.heading(h, 1), h + 1);
        }
        due("add with level 7", x.add(6, 7, 0), BAD);
        due("add with level 0", x.add(0, 0, 0), BAD);
        due("add before all", x.add(0, 1, 0), 6);
        due("its place", x.heading(6, 0), 0);
        due("place of 0 now", x.heading(0, 0), 1);
        due("place of 5 now", x.heading(5, 0), 6);
        due("promote(6) above level 1", x.promote(6), STATE);
        due("add behind level 6", x.add(7, 6, 0), 7);
        due("demote(7) below level 6", x.demote(7), STATE);
        due("drag(6, 7, 2) below level 6", x.drag(6, 7, 2), STATE);
        due("drag(6, 7, 1) to level 6", x.drag(6, 7, 1), 7);
        due("list", Bounds.list(x), "0:1 1:2 2:3 3:4 4:5 5:6 7:6 6:6");
    }

    /** All lists of up to four headings, each with every call that changes the list. */
    private static void ruleAboutLevels() {
        for (int[] levels : smallOutlines(4)) {
            everyAdd(levels);
            int n = levels.length;
            for (int h = 0; h < n; h++) {
                int g = h;
                ruleHolds(levels, "remove(" + g + ", 0)", x -> x.remove(g, 0));
                ruleHolds(levels, "remove(" + g + ", 1)", x -> x.remove(g, 1));
                ruleHolds(levels, "promote(" + g + ")", x -> x.promote(g));
                ruleHolds(levels, "demote(" + g + ")", x -> x.demote(g));
                for (int i = 0; i < n * 4; i++) {
                    int target = i / 4;
                    int where = i % 4;
                    ruleHolds(levels, "drag(" + g + ", " + target + ", " + where + ")", x -> x.drag(g, target, where));
                }
            }
        }
    }

    private static List<int[]> smallOutlines(int most) {
        List<int[]> all = new ArrayList<>();
        all.add(new int[0]);
        for (int i = 0; i < all.size(); i++) {
            int[] levels = all.get(i);
            int n = levels.length;
            for (int level = 1; n < most && level <= (n == 0 ? 1 : levels[n - 1] + 1); level++) {
                int[] longer = Arrays.copyOf(levels, n + 1);
                longer[n] = level;
                all.add(longer);
            }
        }
        return all;
    }

    private static void everyAdd(int[] levels) {
        int n = levels.length;
        for (int at = 0; at <= n; at++) {
            for (int level = 1; level <= 6; level++) {
                boolean fits = level <= (at == 0 ? 0 : levels[at - 1]) + 1 && (at == n || levels[at] <= level + 1);
                String call = "add(" + at + ", " + level + ", 0) into " + Arrays.toString(levels);
                due(call, Bounds.outline(levels).add(at, level, 0), fits ? n : STATE);
            }
        }
    }

    private static void ruleHolds(int[] levels, String call, Bounds.Call change) {
        OutlineEditor x = Bounds.outline(levels);
        change.on(x);
        int before = 0;
        for (int place = 0; place < x.told(0); place++) {
            int level = x.heading(x.headingAt(place), 1);
            due("after " + call + " in " + Arrays.toString(levels) + " level " + level + " behind level " + before,
                level >= 1 && level <= before + 1 ? 1 : 0, 1);
            before = level;
        }
    }

    private static void parts() {
        OutlineEditor x = Bounds.outline(1, 2, 3, 3, 2, 1, 2, 3);
        int[] sizes = {5, 3, 1, 1, 1, 3, 2, 1};
        int[] all = {8};
        for (int h = 0; h < sizes.length; h++) {
            due("headings in the part of " + h, x.heading(h, 9), sizes[h]);
            OutlineEditor y = Bounds.outline(1, 2, 3, 3, 2, 1, 2, 3);
            due("remove(" + h + ", 0)", y.remove(h, 0), sizes[h]);
            due("headings left", y.told(0), all[0] - sizes[h]);
        }
        due("a part up to the same level", without(1), "0:1 4:2 5:1 6:2 7:3");
        due("a part up to a lower level", without(4), "0:1 1:2 2:3 3:3 5:1 6:2 7:3");
        due("a part up to the end of the list", without(6), "0:1 1:2 2:3 3:3 4:2 5:1");
        due("a part of one heading", without(3), "0:1 1:2 2:3 4:2 5:1 6:2 7:3");
        due("the part of the only heading", Bounds.outline(1).heading(0, 9), 1);
        due("the part of the first of six levels", Bounds.outline(1, 2, 3, 4, 5, 6).heading(0, 9), 6);
        OutlineEditor wide = Bounds.outline(1);
        for (int i = 1; i < 30; i++) {
            wide.add(i, 2, 0);
        }
        due("a part of 30 headings", wide.heading(0, 9), 30);
        due("remove(0, 0) of 30 headings", wide.remove(0, 0), 30);
        due("told(0)", wide.told(0), 0);
    }

    private static String without(int h) {
        OutlineEditor x = Bounds.outline(1, 2, 3, 3, 2, 1, 2, 3);
        x.remove(h, 0);
        return Bounds.list(x);
    }

    private static void parents() {
        OutlineEditor x = Bounds.outline(1, 2, 3, 4, 2, 3, 1, 2, 1);
        int[] parents = {NONE, 0, 1, 2, 0, 4, NONE, 6, NONE};
        for (int h = 0; h < parents.length; h++) {
            due("parent of " + h, x.heading(h, 7), parents[h]);
        }
        OutlineEditor far = Bounds.outline(1);
        for (int i = 1; i < 30; i++) {
            far.add(i, i < 29 ? 3 - (i % 2) : 2, 0);
        }
        due("the parent, 29 places before", far.heading(29, 7), 0);
        due("the parent, just before", far.heading(28, 7), 27);
    }

    private static void childrenInOrder() {
        OutlineEditor x = Bounds.outline(1, 2, 3, 2, 3, 3, 1, 2);
        due("children of 0", Bounds.children(x, 0), "1 3");
        due("children of 1", Bounds.children(x, 1), "2");
        due("children of 3", Bounds.children(x, 3), "4 5");
        due("children of 6", Bounds.children(x, 6), "7");
        due("children of 7", Bounds.children(x, 7), "");
        x.drag(3, 0, 2);
        due("children of 0 by their places, not their numbers", Bounds.children(x, 0), "3 1");
        x.drag(5, 4, 0);
        due("children of 3 by their places", Bounds.children(x, 3), "5 4");
    }

    private static void siblings() {
        OutlineEditor x = Bounds.outline(1, 2, 2, 1, 2, 1);
        int[] values = {1, 1, 2, 2, 1, 3};
        for (int h = 0; h < values.length; h++) {
            due("value of " + h, x.heading(h, 6), values[h]);
        }
        x.setStart(2, 9);
        due("4 has another parent than 2", x.heading(4, 6), 1);
        x.setStart(0, 5);
        due("3 has level 1, as 0", x.heading(3, 6), 6);
    }

    private static void kindsAndTags() {
        for (int kind = 0; kind <= 3; kind++) {
            OutlineEditor x = new OutlineEditor();
            x.add(0, 1, kind);
            due("kind", x.heading(0, 2), kind);
        }
        for (int kind : Bounds.outside(0, 3)) {
            due("add of the kind " + kind, new OutlineEditor().add(0, 1, kind), BAD);
        }
        for (int tag = 0; tag <= 4; tag++) {
            for (int other = 0; other <= 4; other++) {
                OutlineEditor x = Bounds.outline(1);
                x.setTags(0, 1 << tag);
                x.setFilter(1 << other);
                due("tag " + tag + " under the filter of tag " + other, x.heading(0, 11), tag == other ? 1 : 0);
            }
        }
        due("a tag 5", Bounds.outline(1).setTags(0, 1 << 5), BAD);
        due("all tags and a tag 5", Bounds.outline(1).setTags(0, 63), BAD);
    }

    private static void atFirst() {
        OutlineEditor x = Bounds.outline(1);
        due("tags", x.heading(0, 3), 0);
        due("folded", x.heading(0, 4), 0);
        due("start", x.heading(0, 5), 0);
        for (int how = 0; how <= 1; how++) {
            OutlineEditor y = Bounds.outline(1);
            y.setTags(0, 31);
            y.fold(0, 1);
            y.setStart(0, -1);
            y.remove(0, how);
            due("add, with the number of a removed one", y.add(0, 1, 0), 0);
            due("its tags", y.heading(0, 3), 0);
            due("folded", y.heading(0, 4), 0);
            due("its start", y.heading(0, 5), 0);
        }
        OutlineEditor full = Bounds.flat(29);
        full.add(0, 1, 3);
        due("tags of the last number", full.heading(29, 3), 0);
        due("folded, the last number", full.heading(29, 4), 0);
        due("start of the last number", full.heading(29, 5), 0);
    }

    // ---- rules

    private static void rules() {
        Bounds.test("A rule tells, for each kind k, the set of kinds that may be children of a heading of the kind k, and another "
            + "one which kinds may have level 1", DescriptionBoundsTest::rulePerKind);
        Bounds.test("sets of kinds are given as numbers in which bit k stands for the kind k", DescriptionBoundsTest::setsOfKinds);
        Bounds.test("All kinds are allowed at first", DescriptionBoundsTest::allAllowedAtFirst);
        Bounds.test("The rules are looked at when the methods say so, and then for those headings alone that the methods name "
            + "(also if nothing changes for them)", DescriptionBoundsTest::whenRulesAreLookedAt);
        Bounds.test("if a rule is changed, headings stay where they are", DescriptionBoundsTest::headingsStay);
    }

    private static void rulePerKind() {
        for (int ruled = -1; ruled <= 3; ruled++) {
            for (int parent = -1; parent <= 3; parent++) {
                OutlineEditor x = new OutlineEditor();
                if (parent >= 0) {
                    x.add(0, 1, parent);
                }
                x.setRule(ruled, 0);
                int answer = parent >= 0 ? x.add(1, 2, 0) : x.add(0, 1, 0);
                due("a child of the kind " + parent + ", no child allowed for " + ruled, answer,
                    ruled == parent ? DENIED : parent >= 0 ? 1 : 0);
            }
        }
    }

    private static void setsOfKinds() {
        for (int set = 0; set <= 15; set++) {
            for (int kind = 0; kind <= 3; kind++) {
                boolean allowed = (set / (int) Math.pow(2, kind)) % 2 == 1;
                OutlineEditor x = new OutlineEditor();
                x.setRule(-1, set);
                due("kind " + kind + " at level 1 under the set " + set, x.add(0, 1, kind), allowed ? 0 : DENIED);
                OutlineEditor y = Bounds.outline(1);
                y.setRule(0, set);
                due("kind " + kind + " under the kind 0, set " + set, y.add(1, 2, kind), allowed ? 1 : DENIED);
            }
        }
    }

    private static void allAllowedAtFirst() {
        for (int parent = 0; parent <= 3; parent++) {
            for (int kind = 0; kind <= 3; kind++) {
                OutlineEditor x = new OutlineEditor();
                due("kind " + parent + " at level 1", x.add(0, 1, parent), 0);
                due("kind " + kind + " under " + parent, x.add(1, 2, kind), 1);
                due("told(9)", x.told(9), 0);
            }
        }
        for (int kind = -1; kind <= 3; kind++) {
            due("the first rule of " + kind, new OutlineEditor().setRule(kind, 0), 15);
        }
    }

    private static void whenRulesAreLookedAt() {
        nothingChangesButDenied();
        methodsWithoutRules();
        otherHeadingsAreNotLookedAt();
    }

    private static void nothingChangesButDenied() {
        OutlineEditor x = Bounds.outline(1, 2, 2);
        Bounds.forbid(x);
        due("setKind(0, 0), the kind that it has", x.setKind(0, 0), DENIED);
        due("setKind(1, 0), the kind that it has", x.setKind(1, 0), DENIED);
        due("drag(1, 2, 0), where it stands", x.drag(1, 2, 0), DENIED);
        due("drag(2, 1, 1), where it stands", x.drag(2, 1, 1), DENIED);
        due("drag(1, 0, 2), where it stands", x.drag(1, 0, 2), DENIED);
        due("drag(2, 0, 3), where it stands", x.drag(2, 0, 3), DENIED);
        OutlineEditor y = Bounds.outline(1, 1);
        y.setRule(-1, 0);
        due("drag(0, 1, 0), where it stands at level 1", y.drag(0, 1, 0), DENIED);
        due("drag(1, 0, 1), where it stands at level 1", y.drag(1, 0, 1), DENIED);
    }

    private static void methodsWithoutRules() {
        OutlineEditor x = Bounds.outline(1, 2, 3, 2);
        x.keep(0);
        Bounds.forbid(x);
        due("setTags(1, 3)", x.setTags(1, 3), 0);
        due("fold(1, 1)", x.fold(1, 1), 0);
        due("setStart(1, 3)", x.setStart(1, 3), 0);
        due("setScheme(1, 3)", x.setScheme(1, 3), 0);
        due("setFilter(3)", x.setFilter(3), 0);
        due("refer(1, 3)", x.refer(1, 3), 0);
        due("forget(0)", x.forget(0), 0);
        due("remove(3, 0)", x.remove(3, 0), 1);
        due("undo()", x.undo(), 7);
        due("list", Bounds.list(x), "0:1 1:2 2:3 3:2");
        due("keep(1)", x.keep(1), 4);
        due("back(1)", x.back(1), 4);
        due("remove(3, 1), it has no children", x.remove(3, 1), 1);
        due("remove(0, 0)", x.remove(0, 0), 3);
        OutlineEditor y = Bounds.sample();
        Bounds.forbid(y);
        y.keep(1);
        y.remove(0, 0);
        due("back(1) to headings that are not allowed", y.back(1), 6);
        due("told(9)", y.told(9), 6);
    }

    private static void otherHeadingsAreNotLookedAt() {
        // 2 is of the kind 1, which no longer may stand under 1; nor may 4 at level 1.
        Bounds.Maker maker = () -> {
            OutlineEditor x = Bounds.kinds(Bounds.levels(1, 2, 3, 2, 1, 2), 0, 2, 1, 0, 3, 0);
            x.setRule(2, 1);
            x.setRule(-1, 7);
            due("told(9)", x.told(9), 2);
            return x;
        };
        due("add(3, 3, 0) beside 2", maker.make().add(3, 3, 0), 6);
        due("add(6, 1, 0) beside 4", maker.make().add(6, 1, 0), 6);
        due("add(5, 2, 0) under 4", maker.make().add(5, 2, 0), 6);
        due("promote(1), its own child stays its child", maker.make().promote(1), 1);
        due("demote(3) under 1", maker.make().demote(3), 3);
        due("drag(1, 4, 2) with its child", maker.make().drag(1, 4, 2), 3);
        due("drag(3, 1, 2) beside 2", maker.make().drag(3, 1, 2), 2);
        due("drag(5, 4, 0) beside 4", maker.make().drag(5, 4, 0), 4);
        due("setKind(0, 1), 2 is no child of it", maker.make().setKind(0, 1), 0);
        due("setKind(5, 1) under 4", maker.make().setKind(5, 1), 0);
        due("remove(0, 1), 2 stays under 1", maker.make().remove(0, 1), 1);
        OutlineEditor x = Bounds.kinds(Bounds.levels(1, 2, 2, 3), 0, 0, 3, 1);
        x.setRule(3, 0);
        due("demote(2), its child stays its child", x.demote(2), 3);
    }

    private static void headingsStay() {
        for (int kind = -1; kind <= 3; kind++) {
            OutlineEditor x = Bounds.sample();
            String before = Bounds.list(x);
            x.setRule(kind, 0);
            due("list after setRule(" + kind + ", 0)", Bounds.list(x), before);
        }
        OutlineEditor strict = Bounds.strict();
        due("list, nothing allowed", Bounds.list(strict), "0:1 1:2 2:3 3:2 4:1 5:2");
        due("kind of 3", strict.heading(3, 2), 2);
        due("told(9)", strict.told(9), 6);
        due("references", Bounds.references(strict), "4>1 0>?");
    }

    // ---- numbers

    private static void numbers() {
        Bounds.test("Each level has a scheme: 0 numbers (1, 2, 3), 1 small letters (a, b, ..., z, aa, ab, ..., az, ba, ...), 2 "
            + "capital letters (A, B, ...), 3 small Roman numbers (i, ii, iii, iv), 4 capital Roman numbers (I, II), 5 none",
            DescriptionBoundsTest::schemes);
        Bounds.test("At first all levels have the scheme 0", DescriptionBoundsTest::firstSchemes);
        Bounds.test("The value of a heading is 0 if it is unnumbered", DescriptionBoundsTest::valueOfUnnumbered);
        Bounds.test("Otherwise it is its start, if it has one", DescriptionBoundsTest::valueOfStart);
        Bounds.test("otherwise 1 plus the value of the nearest sibling before it that is not unnumbered",
            DescriptionBoundsTest::valueBySibling);
        Bounds.test("otherwise, if there is none, 1", DescriptionBoundsTest::valueOfFirst);
        Bounds.test("The number of a heading is a text: the values of the headings on the way from the one above it with level 1 "
            + "down to itself, each written in the scheme of its level, and joined by points", DescriptionBoundsTest::numberOfWay);
        Bounds.test("headings that are unnumbered, and those whose level has the scheme 5, are left out",
            DescriptionBoundsTest::leftOut);
        Bounds.test("If the heading itself is unnumbered, or its level has the scheme 5, its number is empty",
            DescriptionBoundsTest::emptyNumbers);
        Bounds.test("Roman numbers are written with the signs i, v, x, l, c, d and m in the usual way (4 is iv, 9 is ix, 40 is xl, "
            + "90 is xc, 400 is cd)", DescriptionBoundsTest::romanNumbers);
    }

    /** The number of a heading with level 1 and this value; 60 is the greatest start, so the others follow 30 headings. */
    private static String inScheme(int value, int scheme) {
        OutlineEditor x = value <= 60 ? Bounds.outline(1) : Bounds.full();
        x.setStart(0, Math.min(value, 60));
        x.setScheme(1, scheme);
        int h = Math.max(0, value - 60);
        due("value", x.heading(h, 6), value);
        return Bounds.number(x, h);
    }

    private static void schemes() {
        String[] letters = "a b c d e f g h i j k l m n o p q r s t u v w x y z".split(" ");
        List<String> names = new ArrayList<>(List.of(letters));
        for (String first : letters) {
            for (String second : letters) {
                names.add(first + second);
            }
        }
        for (int value = 1; value <= 89; value++) {
            due(value + " in numbers", inScheme(value, 0), Integer.toString(value));
            due(value + " in small letters", inScheme(value, 1), names.get(value - 1));
            due(value + " in capital letters", inScheme(value, 2), names.get(value - 1).toUpperCase());
            due(value + " in none", inScheme(value, 5), "");
        }
        due("z", inScheme(26, 1), "z");
        due("aa", inScheme(27, 1), "aa");
        due("az", inScheme(52, 1), "az");
        due("ba", inScheme(53, 1), "ba");
        due("ZZ is far; BZ", inScheme(78, 2), "BZ");
        due("CA", inScheme(79, 2), "CA");
        due("iv", inScheme(4, 3), "iv");
        due("II", inScheme(2, 4), "II");
        OutlineEditor x = Bounds.outline(1, 2, 3, 4, 5, 6);
        for (int level = 1; level <= 6; level++) {
            x.setScheme(level, level % 6);
        }
        due("each level has its own", Bounds.number(x, 5), "a.A.i.I.1");
    }

    private static void firstSchemes() {
        for (int level = 1; level <= 6; level++) {
            due("the first scheme of level " + level, new OutlineEditor().setScheme(level, 5), 0);
        }
        due("a number at first", Bounds.number(Bounds.outline(1, 2, 3, 4, 5, 6), 5), "1.1.1.1.1.1");
    }

    private static void valueOfUnnumbered() {
        OutlineEditor x = Bounds.outline(1, 1, 2, 2);
        x.setStart(0, -1);
        due("value of the first", x.heading(0, 6), 0);
        x.setStart(3, 60);
        x.setStart(3, -1);
        due("value of one that had a start", x.heading(3, 6), 0);
        x.setStart(1, -1);
        due("value behind an unnumbered one", x.heading(1, 6), 0);
        x.setStart(1, 0);
        due("value when it is numbered again", x.heading(1, 6), 1);
    }

    private static void valueOfStart() {
        for (int start : new int[] {1, 2, 59, 60}) {
            OutlineEditor x = Bounds.outline(1, 1, 2);
            for (int h = 0; h <= 2; h++) {
                x.setStart(h, start);
                due("value of " + h + " with the start " + start, x.heading(h, 6), start);
            }
        }
        OutlineEditor x = Bounds.outline(1, 1, 1);
        x.setStart(0, 60);
        x.setStart(2, 1);
        due("a start below the one before", x.heading(2, 6), 1);
        x.setStart(2, 0);
        due("no start", x.heading(2, 6), 62);
    }

    private static void valueBySibling() {
        OutlineEditor x = Bounds.outline(1, 1, 2, 1, 1, 1);
        x.setStart(1, 4);
        x.setStart(2, 50);
        due("behind a start, not behind its child", x.heading(3, 6), 5);
        x.setStart(3, -1);
        x.setStart(4, -1);
        due("behind two unnumbered ones", x.heading(5, 6), 5);
        x.setStart(4, 9);
        due("behind the nearest one", x.heading(5, 6), 10);
        OutlineEditor full = Bounds.full();
        full.setStart(0, 60);
        due("the greatest value", full.heading(29, 6), 89);
        full.setStart(0, 0);
        due("the 30th", full.heading(29, 6), 30);
        full.setStart(28, 60);
        due("behind 60", full.heading(29, 6), 61);
        OutlineEditor y = Bounds.outline(1, 2, 1, 2, 2);
        y.setStart(1, 7);
        due("not behind another one's child", y.heading(4, 6), 2);
        OutlineEditor z = Bounds.outline(1, 2);
        z.setScheme(1, 5);
        z.add(2, 1, 0);
        due("the scheme 5 has values, too", z.heading(2, 6), 2);
    }

    private static void valueOfFirst() {
        OutlineEditor x = Bounds.outline(1, 2, 2, 1, 2, 1);
        due("the first of the list", x.heading(0, 6), 1);
        due("a first child", x.heading(1, 6), 1);
        due("the first child of another one", x.heading(4, 6), 1);
        x.setStart(1, -1);
        due("behind unnumbered siblings alone", x.heading(2, 6), 1);
        x.setStart(0, -1);
        x.setStart(3, -1);
        due("behind unnumbered headings with level 1 alone", x.heading(5, 6), 1);
        x.setStart(5, 0);
        due("the start 0 is none", x.heading(5, 6), 1);
    }

    private static void numberOfWay() {
        OutlineEditor x = Bounds.outline(1, 1, 2, 2, 3, 4, 5, 6);
        due("level 1, without a point", Bounds.number(x, 1), "2");
        due("level 2", Bounds.number(x, 3), "2.2");
        due("level 6", Bounds.number(x, 7), "2.2.1.1.1.1");
        x.setScheme(1, 4);
        x.setScheme(2, 1);
        x.setScheme(6, 3);
        due("each in the scheme of its level", Bounds.number(x, 7), "II.b.1.1.1.i");
        due("the longest number", Bounds.number(longest(), 5), "xxxviii.xxxviii.xxxviii.xxxviii.xxxviii.xxxviii");
        due("its length", longest().heading(5, 12), 47);
    }

    private static OutlineEditor longest() {
        OutlineEditor x = Bounds.outline(1, 2, 3, 4, 5, 6);
        for (int h = 0; h < 6; h++) {
            x.setStart(h, 38);
            x.setScheme(h + 1, 3);
        }
        return x;
    }

    private static void leftOut() {
        for (int out = 0; out < 5; out++) {
            OutlineEditor x = Bounds.outline(1, 2, 3, 4, 5, 6);
            OutlineEditor y = Bounds.outline(1, 2, 3, 4, 5, 6);
            StringBuilder want = new StringBuilder();
            for (int h = 0; h < 6; h++) {
                x.setStart(h, h == out ? -1 : h + 1);
                y.setStart(h, h + 1);
                want.append(h == out ? "" : (h + 1) + (h == 5 ? "" : "."));
            }
            y.setScheme(out + 1, 5);
            due("the number without the unnumbered " + out, Bounds.number(x, 5), want.toString());
            due("the number without level " + (out + 1), Bounds.number(y, 5), want.toString());
        }
        OutlineEditor all = Bounds.outline(1, 2, 3);
        all.setStart(0, -1);
        all.setScheme(2, 5);
        due("all above it are left out", Bounds.number(all, 2), "1");
    }

    private static void emptyNumbers() {
        for (int h = 0; h < 3; h++) {
            OutlineEditor x = Bounds.outline(1, 2, 3);
            x.setStart(h, -1);
            due("number of the unnumbered " + h, Bounds.number(x, h), "");
            due("its length", x.heading(h, 12), 0);
            OutlineEditor y = Bounds.outline(1, 2, 3);
            y.setScheme(h + 1, 5);
            due("number under the scheme 5, level " + (h + 1), Bounds.number(y, h), "");
            due("its length", y.heading(h, 12), 0);
            y.setStart(h, 60);
            due("number under the scheme 5, with a start", Bounds.number(y, h), "");
        }
    }

    /** No value is above 89: xc, cd and m cannot be reached. */
    private static void romanNumbers() {
        String[] ones = {"", "i", "ii", "iii", "iv", "v", "vi", "vii", "viii", "ix"};
        String[] tens = {"", "x", "xx", "xxx", "xl", "l", "lx", "lxx", "lxxx"};
        for (int value = 1; value <= 89; value++) {
            String want = tens[value / 10] + ones[value % 10];
            due(value + " in small Roman numbers", inScheme(value, 3), want);
            due(value + " in capital Roman numbers", inScheme(value, 4), want.toUpperCase());
        }
    }

    // ---- references

    private static void references() {
        Bounds.test("There are at most 12 references, numbered from 0", DescriptionBoundsTest::twelveReferences);
        Bounds.test("if one is removed, the numbers of later ones decrease by 1", DescriptionBoundsTest::laterReferences);
        Bounds.test("A reference stands in a heading, which is its source, and refers to a heading, which is its target, possibly "
            + "the same", DescriptionBoundsTest::sourceAndTarget);
        Bounds.test("If its source is removed, the reference is removed", DescriptionBoundsTest::sourceRemoved);
        Bounds.test("if its target is removed, it is broken, and stays broken", DescriptionBoundsTest::targetRemoved);
        Bounds.test("The text of a reference is the number of its target", DescriptionBoundsTest::referenceTexts);
        Bounds.test("it is a question mark if the reference is broken", DescriptionBoundsTest::questionMark);
    }

    private static void twelveReferences() {
        OutlineEditor x = Bounds.outline(1, 2);
        for (int k = 0; k < 12; k++) {
            due("refer", x.refer(k % 2, 1), k);
        }
        due("the 13th", x.refer(0, 1), FULL);
        due("told(1)", x.told(1), 12);
        due("reference(11, 0)", x.reference(11, 0), 1);
        due("reference(12, 0)", x.reference(12, 0), BAD);
        due("forget(4)", x.forget(4), 11);
        due("the 12th again", x.refer(1, 1), 11);
        due("the 13th again", x.refer(1, 1), FULL);
        x.remove(1, 0);
        due("broken ones count", x.told(1), 5);
        for (int k = 5; k < 12; k++) {
            due("refer", x.refer(0, 0), k);
        }
        due("the 13th, some are broken", x.refer(0, 0), FULL);
    }

    private static OutlineEditor fourReferences() {
        OutlineEditor x = Bounds.outline(1, 1, 1, 1);
        x.refer(0, 1);
        x.refer(1, 2);
        x.refer(2, 3);
        x.refer(0, 3);
        return x;
    }

    private static void laterReferences() {
        String[] left = {"1>2 2>3 0>3", "0>1 2>3 0>3", "0>1 1>2 0>3", "0>1 1>2 2>3"};
        for (int k = 0; k < 4; k++) {
            OutlineEditor x = fourReferences();
            due("forget(" + k + ")", x.forget(k), 3);
            due("references without " + k, Bounds.references(x), left[k]);
        }
        OutlineEditor x = fourReferences();
        x.remove(0, 0);
        due("references, the first and the last one gone", Bounds.references(x), "1>2 2>3");
        OutlineEditor y = fourReferences();
        y.demote(2);
        y.remove(1, 0);
        due("references, two in the middle gone", Bounds.references(y), "0>? 0>3");
        OutlineEditor full = Bounds.outline(1, 1);
        for (int k = 0; k < 12; k++) {
            full.refer(k % 2, k % 3 == 0 ? 1 : 0);
        }
        full.remove(0, 0);
        due("references, every second of twelve gone", Bounds.references(full), "1>? 1>1 1>? 1>? 1>1 1>?");
    }

    private static void sourceAndTarget() {
        OutlineEditor x = Bounds.outline(1, 2);
        due("refer(0, 0)", x.refer(0, 0), 0);
        due("refer(1, 1)", x.refer(1, 1), 1);
        due("refer(0, 1)", x.refer(0, 1), 2);
        due("refer(0, 1) again", x.refer(0, 1), 3);
        due("references", Bounds.references(x), "0>0 1>1 0>1 0>1");
    }

    private static void sourceRemoved() {
        for (int how = 0; how <= 1; how++) {
            OutlineEditor x = Bounds.outline(1, 1, 1);
            x.refer(0, 1);
            x.refer(1, 0);
            x.refer(1, 1);
            x.refer(1, 2);
            x.refer(2, 0);
            x.remove(1, how);
            due("references after remove(1, " + how + ")", Bounds.references(x), "0>? 2>0");
            due("told(1)", x.told(1), 2);
        }
        OutlineEditor part = Bounds.outline(1, 2, 3, 1);
        part.refer(2, 3);
        part.refer(3, 3);
        part.remove(0, 0);
        due("the source is in the part that is removed", Bounds.references(part), "3>3");
        OutlineEditor alone = Bounds.outline(1, 2, 3, 1);
        alone.refer(2, 3);
        alone.refer(0, 3);
        alone.remove(0, 1);
        due("the source stays if the heading above it goes alone", Bounds.references(alone), "2>3");
        OutlineEditor broken = Bounds.outline(1, 1);
        broken.refer(0, 1);
        broken.remove(1, 0);
        broken.remove(0, 0);
        due("a broken one goes with its source", broken.told(1), 0);
        due("told(2)", broken.told(2), 0);
    }

    private static void targetRemoved() {
        for (int how = 0; how <= 1; how++) {
            OutlineEditor x = Bounds.outline(1, 2, 1);
            x.refer(2, 0);
            x.refer(2, 1);
            x.remove(0, how);
            due("references after remove(0, " + how + ")", Bounds.references(x), how == 0 ? "2>? 2>?" : "2>? 2>1");
            due("told(2)", x.told(2), how == 0 ? 2 : 1);
            due("add, with the number of the target", x.add(0, 1, 0), 0);
            due("references stay broken", Bounds.references(x), how == 0 ? "2>? 2>?" : "2>? 2>1");
            due("references to the new heading", x.heading(0, 13), 0);
        }
        OutlineEditor y = Bounds.outline(1, 1);
        y.refer(1, 0);
        y.remove(0, 0);
        y.undo();
        due("undo() restores the state before", Bounds.references(y), "1>0");
    }

    private static void referenceTexts() {
        OutlineEditor x = Bounds.outline(1, 1, 2);
        x.refer(0, 2);
        x.refer(0, 0);
        due("text", Bounds.text(x, 0), "2.1");
        due("text", Bounds.text(x, 1), "1");
        x.setStart(2, 60);
        due("text", Bounds.text(x, 0), "2.60");
        x.setStart(2, -1);
        due("text of an unnumbered target", Bounds.text(x, 0), "");
        due("it is not broken", x.told(2), 0);
        x.setStart(2, 0);
        x.setScheme(2, 5);
        due("text of a target under the scheme 5", Bounds.text(x, 0), "");
        OutlineEditor longest = longest();
        longest.refer(0, 5);
        due("the longest text", Bounds.text(longest, 0), "xxxviii.xxxviii.xxxviii.xxxviii.xxxviii.xxxviii");
    }

    private static void questionMark() {
        OutlineEditor x = Bounds.outline(1, 1);
        x.refer(0, 1);
        x.setStart(1, -1);
        x.remove(1, 0);
        due("referenceText(0, 0)", x.referenceText(0, 0), '?');
        due("referenceText(0, 1)", x.referenceText(0, 1), NONE);
        due("reference(0, 4)", x.reference(0, 4), 1);
        x.setScheme(1, 5);
        due("referenceText(0, 0), no numbers at level 1", x.referenceText(0, 0), '?');
    }

    // ---- folding and filters

    private static void foldingAndFilters() {
        Bounds.test("A heading is open if no heading above it (its parent, the parent of this one, and so on) is folded",
            DescriptionBoundsTest::openHeadings);
        Bounds.test("The filter is a set of tags, 0 at first", DescriptionBoundsTest::firstFilter);
        Bounds.test("A heading matches the filter if the filter is 0, or they have a tag in common", DescriptionBoundsTest::matches);
        Bounds.test("A heading is shown if it is open, and it, or a heading of its part, matches the filter",
            DescriptionBoundsTest::shownHeadings);
    }

    private static String open(OutlineEditor x) {
        StringBuilder out = new StringBuilder();
        for (int p = 0; p < x.told(0); p++) {
            int h = x.headingAt(p);
            out.append(x.heading(h, 10) == 1 ? " " + h : "");
        }
        return out.toString().trim();
    }

    private static void openHeadings() {
        String[] open = {"0 5 6", "0 1 4 5 6", "0 1 2 4 5 6", "0 1 2 3 4 5 6", "0 1 2 3 4 5 6", "0 1 2 3 4 5", "0 1 2 3 4 5 6"};
        for (int h = 0; h < 7; h++) {
            OutlineEditor x = Bounds.outline(1, 2, 3, 4, 2, 1, 2);
            x.fold(h, 1);
            due("open with " + h + " folded", open(x), open[h]);
            x.fold(h, 0);
            due("open with none folded", open(x), "0 1 2 3 4 5 6");
        }
        OutlineEditor six = Bounds.outline(1, 2, 3, 4, 5, 6);
        six.fold(0, 1);
        due("open, five levels below a folded one", six.heading(5, 10), 0);
        six.fold(4, 1);
        six.fold(0, 0);
        due("open, just below a folded one", six.heading(5, 10), 0);
        due("a folded one is open itself", six.heading(4, 10), 1);
    }

    private static void firstFilter() {
        due("told(6)", new OutlineEditor().told(6), 0);
        due("setFilter(31)", new OutlineEditor().setFilter(31), 0);
        due("all are shown at first", Bounds.shown(Bounds.outline(1, 2)), "0 1");
    }

    private static void matches() {
        for (int tags = 0; tags <= 31; tags++) {
            for (int filter = 0; filter <= 31; filter++) {
                boolean common = filter == 0;
                for (int bit = 1; bit <= 16; bit *= 2) {
                    common |= tags / bit % 2 == 1 && filter / bit % 2 == 1;
                }
                OutlineEditor x = Bounds.outline(1);
                x.setTags(0, tags);
                x.setFilter(filter);
                due("tags " + tags + " under the filter " + filter, x.heading(0, 11), common ? 1 : 0);
            }
        }
    }

    private static void shownHeadings() {
        OutlineEditor x = Bounds.outline(1, 2, 3, 4, 2, 1, 2);
        x.setFilter(2);
        due("shown, no match", Bounds.shown(x), "");
        x.setTags(3, 2);
        due("shown, a match at the end of the part", Bounds.shown(x), "0 1 2 3");
        x.fold(1, 1);
        due("shown, the match is not open", Bounds.shown(x), "0 1");
        x.fold(1, 0);
        x.setTags(3, 0);
        x.setTags(5, 2);
        due("shown, a match behind the part and above 6", Bounds.shown(x), "5");
        x.setTags(6, 2);
        x.fold(5, 1);
        due("shown, a match below a folded one", Bounds.shown(x), "5");
        x.setTags(5, 0);
        due("shown, by the folded one's part", Bounds.shown(x), "5");
        x.setFilter(0);
        due("shown, no filter", Bounds.shown(x), "0 1 2 3 4 5");
    }

    // ---- changes

    private static void changes() {
        Bounds.test("A history of at most 8 states is kept: a change that returns no error code records the state before it: "
            + "headings, rules, schemes, references and the filter", DescriptionBoundsTest::eightStates);
        Bounds.test("if there are more than 8, the oldest one is dropped", DescriptionBoundsTest::oldestIsDropped);
        Bounds.test("undo() removes the latest state and restores it", DescriptionBoundsTest::undoRemovesLatest);
        Bounds.test("The text and the images do not belong to a state", DescriptionBoundsTest::textAndImagesStay);
    }

    private static void eightStates() {
        OutlineEditor x = new OutlineEditor();
        for (int i = 1; i <= 12; i++) {
            x.setFilter(i);
            due("told(7) after change " + i, x.told(7), Math.min(i, 8));
        }
        Bounds.change(Bounds::sample, "setTags(2, 5), nothing is different", y -> y.setTags(2, 5), 5);
        Bounds.change(Bounds::sample, "setFilter(4), nothing is different", y -> y.setFilter(4), 4);
        Bounds.change(Bounds::sample, "remove(0, 0), headings and references", y -> y.remove(0, 0), 4);
        Bounds.change(Bounds::sample, "setRule(3, 0), rules", y -> y.setRule(3, 0), 7);
        Bounds.change(Bounds::sample, "setScheme(2, 4), schemes", y -> y.setScheme(2, 4), 1);
        Bounds.change(Bounds::sample, "forget(1), references", y -> y.forget(1), 1);
        Bounds.change(Bounds::sample, "setFilter(31), the filter", y -> y.setFilter(31), 4);
        Bounds.change(Bounds::sample, "back(0), all of it", y -> y.back(0), 7);
        Bounds.noChange(Bounds::sample, "setFilter(32), refused", y -> y.setFilter(32), BAD);
        Bounds.noChange(Bounds::sample, "write(49)", y -> y.write(49), 4);
        Bounds.noChange(Bounds::sample, "wipe()", y -> y.wipe(), 3);
        Bounds.noChange(Bounds::sample, "keep(1)", y -> y.keep(1), 6);
        Bounds.noChange(Bounds::sample, "find(0)", y -> y.find(0), 1);
        Bounds.noChange(Bounds::sample, "told(4)", y -> y.told(4), 3);
    }

    private static void oldestIsDropped() {
        for (int changes = 8; changes <= 27; changes++) {
            OutlineEditor x = new OutlineEditor();
            for (int i = 1; i <= changes; i++) {
                x.setFilter(i);
            }
            for (int left = 7; left >= 0; left--) {
                due("undo() after " + changes + " changes", x.undo(), left);
                due("the filter then", x.told(6), changes - 8 + left);
            }
            due("undo() beyond the oldest", x.undo(), STATE);
            due("the filter stays", x.told(6), changes - 8);
        }
        OutlineEditor y = Bounds.flat(8);
        due("the 8th can still be undone to none", y.told(7), 8);
        for (int i = 0; i < 8; i++) {
            y.undo();
        }
        due("told(0)", y.told(0), 0);
    }

    private static void undoRemovesLatest() {
        OutlineEditor x = Bounds.outline(1);
        x.setFilter(1);
        x.setFilter(2);
        due("undo()", x.undo(), 2);
        due("told(6)", x.told(6), 1);
        x.setFilter(3);
        due("told(7)", x.told(7), 3);
        due("undo()", x.undo(), 2);
        due("told(6), not the one that was undone", x.told(6), 1);
        due("undo()", x.undo(), 1);
        due("told(6)", x.told(6), 0);
        due("undo()", x.undo(), 0);
        due("told(0)", x.told(0), 0);
        due("undo(), none is left", x.undo(), STATE);
    }

    private static void textAndImagesStay() {
        OutlineEditor x = Bounds.outline(1, 2);
        Bounds.write(x, "1.");
        x.setFilter(1);
        x.write('1');
        x.keep(0);
        x.undo();
        due("told(8) after undo()", x.told(8), 3);
        due("find(0), the text is whole", x.find(0), 1);
        due("the image that was kept is there", x.back(0), 2);
        due("with its filter", x.told(6), 1);
        due("back() leaves the text", x.told(8), 3);
        x.wipe();
        x.undo();
        due("told(8), wiped", x.told(8), 0);
        OutlineEditor y = Bounds.outline(1);
        y.keep(1);
        y.add(1, 1, 0);
        y.keep(0);
        due("back(1)", y.back(1), 1);
        due("back(0), an image holds no images", y.back(0), 2);
        y.undo();
        y.undo();
        due("told(0)", y.told(0), 2);
        due("back(1) still", y.back(1), 1);
    }
}
