import java.io.IOException;
import java.util.Arrays;

/** The sentences of promises 15 to 29 (references, what is told, the text, images), each with a test of its own. */
public final class AnswerBoundsTest {
    private static final int BAD = Bounds.BAD, STATE = Bounds.STATE, FULL = Bounds.FULL, NONE = Bounds.NONE;

    /** Numbers that no reference of sample() has. */
    private static final int[] NO_REFERENCES = {-1, 2, 3, 11, 12, 13, -2, NONE, 256, 65536, Bounds.LEAST, Bounds.LEAST + 1,
        Bounds.GREATEST};

    public static void main(String[] args) throws IOException {
        refer();
        forget();
        reference();
        referenceText();
        told();
        headingAt();
        shownAt();
        heading();
        child();
        numberText();
        write();
        wipe();
        find();
        keep();
        back();
        Bounds.end();
    }

    private static void due(String call, int got, int want) {
        Bounds.due(call, got, want);
    }

    private static void due(String what, String got, String want) {
        Bounds.due(what, got, want);
    }

    /** With each of these indexes there is nothing in the sample. */
    private static void none(String call, int[] indexes, Bounds.CallWith asked) {
        for (int n : indexes) {
            due(call.replace("#", "" + n), asked.on(Bounds.sample(), n), NONE);
        }
    }

    /** 30 headings, the first with level 1 and all others with level 2. */
    private static OutlineEditor wide() {
        OutlineEditor x = Bounds.outline(1);
        for (int i = 1; i < 30; i++) {
            due("add while building", x.add(i, 2, 0), i);
        }
        return x;
    }

    // ---- promise 15

    private static void refer() {
        Bounds.section("Promise 15: refer");
        Bounds.test("Adds a reference", () -> {
            OutlineEditor x = Bounds.outline(1, 2);
            x.refer(1, 0);
            due("references", Bounds.references(x), "1>0");
            x.refer(0, 0);
            due("references, the new one is the last", Bounds.references(x), "1>0 0>0");
        });
        Bounds.test("This is a change", () -> {
            Bounds.change(Bounds::sample, "refer(5, 0)", x -> x.refer(5, 0), 2);
            Bounds.change(() -> Bounds.outline(1), "refer(0, 0)", x -> x.refer(0, 0), 0);
        });
        Bounds.test("`source`: its source", () -> {
            OutlineEditor x = Bounds.full();
            due("refer(0, 5)", x.refer(0, 5), 0);
            due("refer(29, 5)", x.refer(29, 5), 1);
            due("references", Bounds.references(x), "0>5 29>5");
            due("refer(30, 5)", x.refer(30, 5), BAD);
            due("refer(-1, 5)", x.refer(-1, 5), BAD);
        });
        Bounds.test("`target`: its target", () -> {
            OutlineEditor x = Bounds.full();
            due("refer(5, 0)", x.refer(5, 0), 0);
            due("refer(5, 29)", x.refer(5, 29), 1);
            due("refer(5, 5)", x.refer(5, 5), 2);
            due("references", Bounds.references(x), "5>0 5>29 5>5");
            due("refer(5, 30)", x.refer(5, 30), BAD);
            due("refer(5, -1)", x.refer(5, -1), BAD);
        });
        Bounds.test("Returns its number", () -> {
            OutlineEditor x = Bounds.outline(1);
            for (int k = 0; k < 12; k++) {
                due("refer(0, 0)", x.refer(0, 0), k);
            }
            x.forget(0);
            due("refer(0, 0), one was removed", x.refer(0, 0), 11);
        });
        Bounds.test("BAD if there is no such heading", () -> {
            Bounds.bad("refer(#, 0)", Bounds.NO_HEADINGS, (x, n) -> x.refer(n, 0));
            Bounds.bad("refer(0, #)", Bounds.NO_HEADINGS, (x, n) -> x.refer(0, n));
            Bounds.bad("refer(#, #)", Bounds.NO_HEADINGS, (x, n) -> x.refer(n, n));
            due("refer(0, 0) without headings", new OutlineEditor().refer(0, 0), BAD);
        });
        Bounds.test("FULL if there are 12 references", () -> {
            OutlineEditor x = Bounds.outline(1);
            for (int k = 0; k < 11; k++) {
                x.refer(0, 0);
            }
            due("refer, 11 are there", x.refer(0, 0), 11);
            due("refer, 12 are there", x.refer(0, 0), FULL);
            Bounds.refused(Bounds::manyReferences, "refer(0, 0)", y -> y.refer(0, 0), FULL);
            Bounds.refused(Bounds::manyReferences, "refer(5, 4)", y -> y.refer(5, 4), FULL);
        });
    }

    // ---- promise 16

    private static void forget() {
        Bounds.section("Promise 16: forget");
        Bounds.test("Removes a reference", () -> {
            OutlineEditor x = Bounds.sample();
            x.forget(0);
            due("references, the first is gone", Bounds.references(x), "0>?");
            OutlineEditor y = Bounds.sample();
            y.forget(1);
            due("references, the last is gone", Bounds.references(y), "4>1");
            y.forget(0);
            due("references, the only one is gone", Bounds.references(y), "");
            due("the headings stay", Bounds.list(y), "0:1 1:2 2:3 3:2 4:1 5:2");
        });
        Bounds.test("This is a change", () -> {
            Bounds.change(Bounds::sample, "forget(0)", x -> x.forget(0), 1);
            Bounds.change(Bounds::sample, "forget(1), a broken one", x -> x.forget(1), 1);
            Bounds.change(Bounds::manyReferences, "forget(11)", x -> x.forget(11), 11);
        });
        Bounds.test("`k`: the reference", () -> {
            due("forget(0)", Bounds.manyReferences().forget(0), 11);
            due("forget(11)", Bounds.manyReferences().forget(11), 11);
            due("forget(12)", Bounds.manyReferences().forget(12), BAD);
            due("forget(-1)", Bounds.manyReferences().forget(-1), BAD);
        });
        Bounds.test("Returns how many references are left", () -> {
            OutlineEditor x = Bounds.manyReferences();
            for (int left = 11; left >= 0; left--) {
                due("forget(0)", x.forget(0), left);
            }
            due("forget(0), none is left", x.forget(0), BAD);
        });
        Bounds.test("BAD if there is no such reference", () -> {
            Bounds.bad("forget(#)", NO_REFERENCES, (x, n) -> x.forget(n));
            due("forget(0) without references", Bounds.outline(1).forget(0), BAD);
        });
    }

    // ---- promise 17

    private static OutlineEditor threeReferences() {
        OutlineEditor x = Bounds.outline(1, 2, 1, 2);
        x.refer(2, 1);
        x.refer(1, 3);
        x.refer(2, 2);
        return x;
    }

    private static void reference() {
        Bounds.section("Promise 17: reference");
        Bounds.nothingToTest("Returns a property of a reference");
        Bounds.test("`k`: the reference", () -> {
            OutlineEditor x = Bounds.manyReferences();
            due("reference(0, 0)", x.reference(0, 0), 4);
            due("reference(11, 0)", x.reference(11, 0), 5);
            due("reference(12, 0)", x.reference(12, 0), BAD);
            due("reference(-1, 0)", x.reference(-1, 0), BAD);
        });
        Bounds.test("`what`: 0 its source", () -> {
            due("reference(0, 0)", Bounds.sample().reference(0, 0), 4);
            due("reference(1, 0), broken", Bounds.sample().reference(1, 0), 0);
            OutlineEditor x = Bounds.full();
            x.refer(29, 0);
            due("reference(0, 0)", x.reference(0, 0), 29);
        });
        Bounds.test("1 its target", () -> {
            due("reference(0, 1)", Bounds.sample().reference(0, 1), 1);
            due("reference(1, 1), broken", Bounds.sample().reference(1, 1), NONE);
            OutlineEditor x = Bounds.full();
            x.refer(0, 29);
            due("reference(0, 1)", x.reference(0, 1), 29);
        });
        Bounds.test("2 whether its target stands before its source in the list (1), behind it (2), or is the same heading (0)",
            AnswerBoundsTest::referenceOrder);
        Bounds.test("3 whether its target is shown (1 or 0)", AnswerBoundsTest::referenceShown);
        Bounds.test("4 the length of its text (1 to 3: NONE if it is broken)", () -> {
            OutlineEditor x = Bounds.sample();
            due("reference(0, 4)", x.reference(0, 4), 3);
            for (int what = 1; what <= 3; what++) {
                due("reference(1, " + what + "), broken", x.reference(1, what), NONE);
            }
            due("reference(1, 4), broken", x.reference(1, 4), 1);
            x.setStart(1, -1);
            due("reference(0, 4), its target is unnumbered", x.reference(0, 4), 0);
            x.setStart(1, 0);
            x.setScheme(2, 5);
            due("reference(0, 4), its target has the scheme 5", x.reference(0, 4), 0);
            OutlineEditor longest = romans(38, 38, 38, 38, 38, 38);
            longest.refer(0, 5);
            due("reference(0, 4), the longest", longest.reference(0, 4), 47);
        });
        Bounds.test("Returns the property", () -> {
            int[] want = {4, 1, 1, 1, 3};
            int[] broken = {0, NONE, NONE, NONE, 1};
            for (int what = 0; what <= 4; what++) {
                due("reference(0, " + what + ")", Bounds.sample().reference(0, what), want[what]);
                due("reference(1, " + what + ")", Bounds.sample().reference(1, what), broken[what]);
                int w = what;
                Bounds.noChange(Bounds::sample, "reference(0, " + w + ")", x -> x.reference(0, w), want[w]);
            }
        });
        Bounds.test("BAD if there is no such reference or what is out of range", () -> {
            for (int what = 0; what <= 4; what++) {
                int w = what;
                Bounds.bad("reference(#, " + w + ")", NO_REFERENCES, (x, n) -> x.reference(n, w));
            }
            Bounds.bad("reference(0, #)", Bounds.outside(0, 4), (x, n) -> x.reference(0, n));
            Bounds.bad("reference(1, #), broken", Bounds.outside(0, 4), (x, n) -> x.reference(1, n));
            due("reference(0, 0) without references", Bounds.outline(1).reference(0, 0), BAD);
        });
    }

    private static void referenceOrder() {
        OutlineEditor x = threeReferences();
        due("before", x.reference(0, 2), 1);
        due("behind", x.reference(1, 2), 2);
        due("the same", x.reference(2, 2), 0);
        x.drag(2, 0, 0);
        due("just behind, after drag", x.reference(0, 2), 2);
        due("before, after drag", x.reference(1, 2), 1);
        due("the same, after drag", x.reference(2, 2), 0);
        OutlineEditor full = Bounds.full();
        full.refer(0, 29);
        full.refer(29, 0);
        full.refer(29, 28);
        full.refer(28, 29);
        int[] want = {2, 1, 1, 2};
        for (int k = 0; k < 4; k++) {
            due("reference(" + k + ", 2)", full.reference(k, 2), want[k]);
        }
        full.drag(29, 0, 0);
        due("by their places, not their numbers", full.reference(0, 2), 1);
        due("by their places, not their numbers", full.reference(3, 2), 1);
    }

    private static void referenceShown() {
        OutlineEditor x = threeReferences();
        due("shown", x.reference(0, 3), 1);
        x.fold(0, 1);
        due("its target is not open", x.reference(0, 3), 0);
        due("another one's target is", x.reference(1, 3), 1);
        x.fold(0, 0);
        x.setTags(3, 4);
        x.setFilter(4);
        due("its target does not match", x.reference(0, 3), 0);
        due("its target matches", x.reference(1, 3), 1);
        due("a heading under its target matches", x.reference(2, 3), 1);
        x.fold(2, 1);
        due("its target matches, but is not open", x.reference(1, 3), 0);
        due("its target is folded itself", x.reference(2, 3), 1);
        OutlineEditor y = Bounds.outline(1, 2);
        y.refer(1, 0);
        y.fold(0, 1);
        due("its source is not open", y.reference(0, 3), 1);
    }

    // ---- promise 18

    private static void referenceText() {
        Bounds.section("Promise 18: referenceText");
        Bounds.test("Returns a byte of the text of a reference", () -> {
            due("text", Bounds.text(Bounds.sample(), 0), "1.a");
            due("text, broken", Bounds.text(Bounds.sample(), 1), "?");
        });
        Bounds.test("`k`: the reference", () -> {
            OutlineEditor x = Bounds.manyReferences();
            due("referenceText(0, 2)", x.referenceText(0, 2), 'a');
            due("referenceText(11, 0)", x.referenceText(11, 0), '1');
            due("referenceText(12, 0)", x.referenceText(12, 0), BAD);
            due("referenceText(-1, 0)", x.referenceText(-1, 0), BAD);
        });
        Bounds.test("`i`: the index of the byte, 0 or more", () -> {
            OutlineEditor x = Bounds.sample();
            due("referenceText(0, 0)", x.referenceText(0, 0), '1');
            due("referenceText(0, 2), the last", x.referenceText(0, 2), 'a');
            due("referenceText(0, 3)", x.referenceText(0, 3), NONE);
            due("referenceText(0, -1)", x.referenceText(0, -1), BAD);
        });
        Bounds.test("Returns its code", () -> {
            OutlineEditor x = Bounds.sample();
            due("referenceText(0, 0)", x.referenceText(0, 0), 49);
            due("referenceText(0, 1)", x.referenceText(0, 1), 46);
            due("referenceText(0, 2)", x.referenceText(0, 2), 97);
            due("referenceText(1, 0)", x.referenceText(1, 0), 63);
            OutlineEditor longest = romans(38, 38, 38, 38, 38, 38);
            longest.refer(0, 5);
            due("referenceText(0, 46), the last of the longest", longest.referenceText(0, 46), 'i');
            due("referenceText(0, 47)", longest.referenceText(0, 47), NONE);
        });
        Bounds.test("NONE if the text has not so many", () -> {
            none("referenceText(0, #)", Bounds.LARGE, (x, n) -> x.referenceText(0, n));
            none("referenceText(0, #)", new int[] {3, 4}, (x, n) -> x.referenceText(0, n));
            none("referenceText(1, #), broken", new int[] {1, 2, 100}, (x, n) -> x.referenceText(1, n));
            OutlineEditor x = Bounds.sample();
            x.setStart(1, -1);
            due("referenceText(0, 0), the text is empty", x.referenceText(0, 0), NONE);
            due("referenceText(0, -1), the text is empty", x.referenceText(0, -1), BAD);
        });
        Bounds.test("BAD if there is no such reference or i is negative", () -> {
            Bounds.bad("referenceText(#, 0)", NO_REFERENCES, (x, n) -> x.referenceText(n, 0));
            Bounds.bad("referenceText(#, 99)", NO_REFERENCES, (x, n) -> x.referenceText(n, 99));
            Bounds.bad("referenceText(0, #)", Bounds.NEGATIVE, (x, n) -> x.referenceText(0, n));
            Bounds.bad("referenceText(1, #), broken", Bounds.NEGATIVE, (x, n) -> x.referenceText(1, n));
        });
    }

    // ---- promise 19

    private static void told() {
        Bounds.section("Promise 19: told");
        Bounds.nothingToTest("Returns a number");
        Bounds.test("`what`: 0 headings", () -> {
            due("none", new OutlineEditor().told(0), 0);
            due("told(0)", Bounds.sample().told(0), 6);
            due("all 30", Bounds.full().told(0), 30);
        });
        Bounds.test("1 references", () -> {
            due("none", Bounds.outline(1).told(1), 0);
            due("told(1), the broken one too", Bounds.sample().told(1), 2);
            due("all 12", Bounds.manyReferences().told(1), 12);
        });
        Bounds.test("2 broken references", AnswerBoundsTest::toldBroken);
        Bounds.test("3 open headings", () -> {
            due("none", new OutlineEditor().told(3), 0);
            due("told(3), whatever the filter", Bounds.sample().told(3), 5);
            OutlineEditor x = wide();
            due("all 30", x.told(3), 30);
            x.fold(0, 1);
            due("only the folded one", x.told(3), 1);
        });
        Bounds.test("4 shown headings", () -> {
            due("none", new OutlineEditor().told(4), 0);
            due("told(4)", Bounds.sample().told(4), 3);
            OutlineEditor x = wide();
            due("all 30", x.told(4), 30);
            x.fold(0, 1);
            due("only the folded one", x.told(4), 1);
            x.setFilter(16);
            due("no match", x.told(4), 0);
            x.setTags(29, 16);
            due("only the folded one, by the last of its part", x.told(4), 1);
        });
        Bounds.test("5 the greatest level (0 without headings)", () -> {
            due("without headings", new OutlineEditor().told(5), 0);
            due("one level", Bounds.flat(3).told(5), 1);
            due("all levels", Bounds.outline(1, 2, 3, 4, 5, 6).told(5), 6);
            due("told(5), not that of the last", Bounds.sample().told(5), 3);
            OutlineEditor x = Bounds.outline(1, 2);
            x.remove(0, 0);
            due("without headings again", x.told(5), 0);
            x.undo();
            x.remove(1, 0);
            due("the deepest is gone", x.told(5), 1);
        });
        Bounds.test("6 the filter", () -> {
            due("at first", new OutlineEditor().told(6), 0);
            due("told(6)", Bounds.sample().told(6), 4);
            OutlineEditor x = new OutlineEditor();
            x.setFilter(31);
            due("all tags", x.told(6), 31);
        });
        Bounds.test("7 changes that can be undone", () -> {
            for (int n = 0; n <= 10; n++) {
                OutlineEditor x = Bounds.flat(n);
                due("told(7) after " + n + " changes", x.told(7), Math.min(n, 8));
            }
            OutlineEditor x = Bounds.flat(9);
            x.undo();
            due("told(7) after undo()", x.told(7), 7);
        });
        Bounds.test("8 bytes of the text", () -> {
            OutlineEditor x = new OutlineEditor();
            for (int n = 0; n <= 40; n++) {
                due("told(8)", x.told(8), n);
                x.write('1');
            }
            due("told(8), full", x.told(8), 40);
            x.wipe();
            due("told(8), wiped", x.told(8), 0);
        });
        Bounds.test("9 headings whose kind is not allowed where they stand", AnswerBoundsTest::toldNotAllowed);
        Bounds.test("Returns the number", () -> {
            int[] want = {6, 2, 1, 5, 3, 3, 4, 8, 3, 0};
            for (int what = 0; what <= 9; what++) {
                int w = what;
                Bounds.noChange(Bounds::sample, "told(" + w + ")", x -> x.told(w), want[w]);
            }
        });
        Bounds.test("BAD if what is out of range", () -> {
            Bounds.bad("told(#)", Bounds.outside(0, 9), (x, n) -> x.told(n));
            due("told(10), a new object", new OutlineEditor().told(10), BAD);
            due("told(-1), a new object", new OutlineEditor().told(-1), BAD);
        });
    }

    private static void toldBroken() {
        due("none", Bounds.outline(1).told(2), 0);
        due("told(2)", Bounds.sample().told(2), 1);
        OutlineEditor x = Bounds.outline(1, 1);
        for (int k = 0; k < 12; k++) {
            x.refer(0, 1);
        }
        due("none of 12", x.told(2), 0);
        x.remove(1, 0);
        due("all 12", x.told(2), 12);
        x.forget(0);
        due("11 of 11", x.told(2), 11);
        x.refer(0, 0);
        due("11 of 12", x.told(2), 11);
        x.setStart(0, -1);
        due("an empty text is not broken", x.told(2), 11);
    }

    private static void toldNotAllowed() {
        due("none", new OutlineEditor().told(9), 0);
        due("none of 6", Bounds.sample().told(9), 0);
        due("all 6", Bounds.strict().told(9), 6);
        OutlineEditor x = Bounds.kinds(Bounds.levels(1, 2, 3, 2, 1, 2), 0, 1, 2, 3, 0, 1);
        x.setRule(-1, 14);
        due("those with level 1", x.told(9), 2);
        x.setRule(0, 13);
        due("1 and 5 too", x.told(9), 4);
        x.setRule(1, 11);
        due("2 too", x.told(9), 5);
        x.setRule(2, 0);
        x.setRule(3, 0);
        due("2 and 3 have no children", x.told(9), 5);
        OutlineEditor full = Bounds.full();
        full.setRule(-1, 0);
        due("all 30", full.told(9), 30);
    }

    // ---- promise 20

    private static void headingAt() {
        Bounds.section("Promise 20: headingAt");
        Bounds.test("Returns a heading by its place in the list", () -> {
            OutlineEditor x = Bounds.outline(1, 1);
            x.add(0, 1, 0);
            int[] want = {2, 0, 1};
            for (int place = 0; place < 3; place++) {
                due("headingAt(" + place + ")", x.headingAt(place), want[place]);
            }
        });
        Bounds.test("`place`: the place, 0 or more", () -> {
            OutlineEditor x = Bounds.full();
            due("headingAt(0)", x.headingAt(0), 0);
            due("headingAt(29)", x.headingAt(29), 29);
            due("headingAt(30)", x.headingAt(30), NONE);
            due("headingAt(-1)", x.headingAt(-1), BAD);
        });
        Bounds.test("Returns the heading", () -> {
            for (int place = 0; place < 6; place++) {
                int p = place;
                Bounds.noChange(Bounds::sample, "headingAt(" + p + ")", x -> x.headingAt(p), p);
            }
        });
        Bounds.test("NONE if there are not so many", () -> {
            none("headingAt(#)", Bounds.LARGE, (x, n) -> x.headingAt(n));
            none("headingAt(#)", new int[] {6, 7, 29, 30, 31}, (x, n) -> x.headingAt(n));
            due("headingAt(0) without headings", new OutlineEditor().headingAt(0), NONE);
            OutlineEditor x = Bounds.full();
            x.remove(0, 0);
            due("headingAt(29), one is gone", x.headingAt(29), NONE);
            due("headingAt(28)", x.headingAt(28), 29);
        });
        Bounds.test("BAD if place is negative", () -> {
            Bounds.bad("headingAt(#)", Bounds.NEGATIVE, (x, n) -> x.headingAt(n));
            due("headingAt(-1) without headings", new OutlineEditor().headingAt(-1), BAD);
        });
    }

    // ---- promise 21

    private static void shownAt() {
        Bounds.section("Promise 21: shownAt");
        Bounds.test("Returns a shown heading", () -> {
            OutlineEditor x = Bounds.sample();
            due("shown", Bounds.shown(x), "0 1 2");
            x.fold(1, 1);
            due("shown, 1 is folded", Bounds.shown(x), "0 1");
            x.setFilter(0);
            due("shown, no filter", Bounds.shown(x), "0 1 3 4");
        });
        Bounds.test("`k`: the index among the shown headings, in the order of the list, 0 or more", () -> {
            OutlineEditor x = Bounds.outline(1, 2, 1, 2);
            x.drag(2, 0, 0);
            x.fold(2, 1);
            due("shown, by their places", Bounds.shown(x), "2 0 1");
            OutlineEditor full = Bounds.full();
            due("shownAt(0)", full.shownAt(0), 0);
            due("shownAt(29)", full.shownAt(29), 29);
            due("shownAt(30)", full.shownAt(30), NONE);
            full.setFilter(1);
            full.setTags(29, 1);
            due("shownAt(0), only the last one", full.shownAt(0), 29);
            due("shownAt(1)", full.shownAt(1), NONE);
            due("shownAt(-1)", full.shownAt(-1), BAD);
        });
        Bounds.test("Returns the heading", () -> {
            for (int k = 0; k < 3; k++) {
                int n = k;
                Bounds.noChange(Bounds::sample, "shownAt(" + n + ")", x -> x.shownAt(n), n);
            }
        });
        Bounds.test("NONE if there are not so many", () -> {
            none("shownAt(#)", Bounds.LARGE, (x, n) -> x.shownAt(n));
            none("shownAt(#)", new int[] {3, 4, 5, 6, 29, 30}, (x, n) -> x.shownAt(n));
            due("shownAt(0) without headings", new OutlineEditor().shownAt(0), NONE);
            OutlineEditor x = Bounds.outline(1);
            x.setFilter(1);
            due("shownAt(0), none is shown", x.shownAt(0), NONE);
        });
        Bounds.test("BAD if k is negative", () -> {
            Bounds.bad("shownAt(#)", Bounds.NEGATIVE, (x, n) -> x.shownAt(n));
            due("shownAt(-1) without headings", new OutlineEditor().shownAt(-1), BAD);
        });
    }

    // ---- promise 22

    private static void headings(String name, int what, int... want) {
        OutlineEditor x = Bounds.sample();
        for (int h = 0; h < want.length; h++) {
            due(name + " of " + h, x.heading(h, what), want[h]);
        }
    }

    private static void heading() {
        Bounds.section("Promise 22: heading");
        Bounds.nothingToTest("Returns a property of a heading");
        Bounds.test("`h`: the heading", () -> {
            due("heading(0, 0)", Bounds.full().heading(0, 0), 0);
            due("heading(29, 0)", Bounds.full().heading(29, 0), 29);
            due("heading(30, 0)", Bounds.full().heading(30, 0), BAD);
            due("heading(-1, 0)", Bounds.full().heading(-1, 0), BAD);
        });
        headingProperties();
        headingRelations();
        Bounds.test("Returns the property", () -> {
            int[] want = {3, 2, 2, 0, 0, 7, 7, 0, 0, 1, 1, 0, 3, 0};
            for (int what = 0; what <= 13; what++) {
                int w = what;
                Bounds.noChange(Bounds::sample, "heading(3, " + w + ")", x -> x.heading(3, w), want[w]);
            }
        });
        Bounds.test("BAD if there is no such heading or what is out of range", () -> {
            for (int what = 0; what <= 13; what++) {
                int w = what;
                Bounds.bad("heading(#, " + w + ")", Bounds.NO_HEADINGS, (x, n) -> x.heading(n, w));
            }
            Bounds.bad("heading(0, #)", Bounds.outside(0, 13), (x, n) -> x.heading(0, n));
            Bounds.bad("heading(6, #)", Bounds.outside(0, 13), (x, n) -> x.heading(6, n));
            due("heading(0, 0) without headings", new OutlineEditor().heading(0, 0), BAD);
        });
    }

    private static void headingProperties() {
        Bounds.test("`what`: 0 its place in the list", () -> {
            headings("place", 0, 0, 1, 2, 3, 4, 5);
            OutlineEditor x = Bounds.full();
            x.drag(29, 0, 0);
            due("place of 29, dragged to the first", x.heading(29, 0), 0);
            due("place of 28, the last then", x.heading(28, 0), 29);
        });
        Bounds.test("1 its level", () -> {
            headings("level", 1, 1, 2, 3, 2, 1, 2);
            due("level 6", Bounds.outline(1, 2, 3, 4, 5, 6).heading(5, 1), 6);
        });
        Bounds.test("2 its kind", () -> headings("kind", 2, 0, 1, 0, 2, 0, 0));
        Bounds.test("3 its tags", () -> {
            headings("tags", 3, 0, 0, 5, 0, 0, 0);
            OutlineEditor x = Bounds.outline(1);
            x.setTags(0, 31);
            due("all tags", x.heading(0, 3), 31);
        });
        Bounds.test("4 whether it is folded (1 or 0)", () -> {
            headings("folded", 4, 0, 0, 0, 0, 1, 0);
            OutlineEditor x = Bounds.sample();
            x.fold(4, 0);
            due("unfolded", x.heading(4, 4), 0);
        });
        Bounds.test("5 its start, as described for setStart()", () -> {
            headings("start", 5, 0, 0, 0, 7, 0, 0);
            for (int start : new int[] {-1, 0, 1, 60}) {
                OutlineEditor x = Bounds.outline(1);
                x.setStart(0, start);
                due("start", x.heading(0, 5), start);
            }
        });
        Bounds.test("6 its value", () -> {
            headings("value", 6, 1, 1, 1, 7, 2, 1);
            OutlineEditor x = Bounds.full();
            x.setStart(0, 60);
            due("the greatest value", x.heading(29, 6), 89);
            x.setStart(29, -1);
            due("value, unnumbered", x.heading(29, 6), 0);
        });
    }

    private static void headingRelations() {
        Bounds.test("7 its parent (NONE if there is none)", () -> {
            headings("parent", 7, NONE, 0, 1, 0, NONE, 4);
            due("parent, 29 places before", wide().heading(29, 7), 0);
            due("parent of the last of 30 with level 1", Bounds.full().heading(29, 7), NONE);
        });
        Bounds.test("8 the number of its children", () -> {
            headings("children", 8, 2, 1, 0, 0, 1, 0);
            due("29 children", wide().heading(0, 8), 29);
            due("children of the last", wide().heading(29, 8), 0);
        });
        Bounds.test("9 the number of headings in its part", () -> {
            headings("part", 9, 4, 2, 1, 1, 2, 1);
            due("all 30", wide().heading(0, 9), 30);
            due("part of the last", wide().heading(29, 9), 1);
        });
        Bounds.test("10 whether it is open (1 or 0)", () -> headings("open", 10, 1, 1, 1, 1, 1, 0));
        Bounds.test("11 whether it is shown (1 or 0)", () -> {
            headings("shown", 11, 1, 1, 1, 0, 0, 0);
            OutlineEditor x = Bounds.sample();
            x.setFilter(0);
            due("shown, open and no filter", x.heading(4, 11), 1);
            due("shown, not open", x.heading(5, 11), 0);
        });
        Bounds.test("12 the length of its number", () -> {
            headings("length", 12, 1, 3, 5, 3, 1, 3);
            OutlineEditor x = Bounds.sample();
            x.setStart(0, -1);
            due("length, unnumbered", x.heading(0, 12), 0);
            due("length, the one above it is left out", x.heading(2, 12), 3);
            due("the greatest length", romans(38, 38, 38, 38, 38, 38).heading(5, 12), 47);
        });
        Bounds.test("13 the number of references that have it as their target", () -> {
            headings("references", 13, 0, 1, 0, 0, 0, 0);
            due("references to 0", Bounds.manyReferences().heading(0, 13), 10);
            OutlineEditor x = Bounds.outline(1, 1);
            for (int k = 0; k < 12; k++) {
                x.refer(1, 0);
            }
            due("all 12", x.heading(0, 13), 12);
            due("none", x.heading(1, 13), 0);
            x.remove(0, 0);
            x.add(0, 1, 0);
            due("broken ones do not count", x.heading(0, 13), 0);
        });
    }

    // ---- promise 23

    private static void child() {
        Bounds.section("Promise 23: child");
        Bounds.test("Returns a child of a heading", () -> {
            due("children of 0", Bounds.children(Bounds.sample(), 0), "1 3");
            due("children of 1", Bounds.children(Bounds.sample(), 1), "2");
            due("children of 2", Bounds.children(Bounds.sample(), 2), "");
            due("children of 4, folded", Bounds.children(Bounds.sample(), 4), "5");
        });
        Bounds.test("`h`: the heading, or -1 for the headings with level 1", () -> {
            due("headings with level 1", Bounds.children(Bounds.sample(), -1), "0 4");
            due("child(-1, 29)", Bounds.full().child(-1, 29), 29);
            due("child(-1, 0) without headings", new OutlineEditor().child(-1, 0), NONE);
            due("child(29, 0)", Bounds.full().child(29, 0), NONE);
            due("child(30, 0)", Bounds.full().child(30, 0), BAD);
            due("child(-2, 0)", Bounds.full().child(-2, 0), BAD);
        });
        Bounds.test("`k`: the index among the children, 0 or more", () -> {
            due("child(0, 0)", wide().child(0, 0), 1);
            due("child(0, 28)", wide().child(0, 28), 29);
            due("child(0, 29)", wide().child(0, 29), NONE);
            due("child(0, -1)", wide().child(0, -1), BAD);
        });
        Bounds.test("Returns the child", () -> {
            Bounds.noChange(Bounds::sample, "child(0, 0)", x -> x.child(0, 0), 1);
            Bounds.noChange(Bounds::sample, "child(0, 1)", x -> x.child(0, 1), 3);
            Bounds.noChange(Bounds::sample, "child(-1, 1)", x -> x.child(-1, 1), 4);
        });
        Bounds.test("NONE if there are not so many", () -> {
            for (int h = -1; h <= 5; h++) {
                int g = h;
                none("child(" + g + ", #)", Bounds.LARGE, (x, n) -> x.child(g, n));
            }
            due("child(0, 2), behind it stand children of 4", Bounds.sample().child(0, 2), NONE);
            due("child(1, 1), behind it stands its sibling", Bounds.sample().child(1, 1), NONE);
            due("child(2, 0), no children", Bounds.sample().child(2, 0), NONE);
            due("child(5, 0), the last one", Bounds.sample().child(5, 0), NONE);
            due("child(-1, 2)", Bounds.sample().child(-1, 2), NONE);
        });
        Bounds.test("BAD if h is neither a heading nor -1, or k is negative", () -> {
            int[] wrong = Arrays.stream(Bounds.NO_HEADINGS).filter(h -> h != -1).toArray();
            Bounds.bad("child(#, 0)", wrong, (x, n) -> x.child(n, 0));
            Bounds.bad("child(#, 99)", wrong, (x, n) -> x.child(n, 99));
            Bounds.bad("child(0, #)", Bounds.NEGATIVE, (x, n) -> x.child(0, n));
            Bounds.bad("child(-1, #)", Bounds.NEGATIVE, (x, n) -> x.child(-1, n));
            Bounds.bad("child(#, -1)", wrong, (x, n) -> x.child(n, -1));
            due("child(-1, -1) without headings", new OutlineEditor().child(-1, -1), BAD);
        });
    }

    // ---- promise 24

    private static void numberText() {
        Bounds.section("Promise 24: numberText");
        Bounds.test("Returns a byte of the number of a heading", () -> {
            String[] want = {"1", "1.a", "1.a.1", "1.g", "2", "2.a"};
            for (int h = 0; h < 6; h++) {
                due("number of " + h, Bounds.number(Bounds.sample(), h), want[h]);
            }
        });
        Bounds.test("`h`: the heading", () -> {
            due("numberText(0, 0)", Bounds.full().numberText(0, 0), '1');
            due("numberText(29, 0)", Bounds.full().numberText(29, 0), '3');
            due("numberText(30, 0)", Bounds.full().numberText(30, 0), BAD);
            due("numberText(-1, 0)", Bounds.full().numberText(-1, 0), BAD);
        });
        Bounds.test("`i`: the index of the byte, 0 or more", () -> {
            OutlineEditor x = Bounds.sample();
            due("numberText(2, 0)", x.numberText(2, 0), '1');
            due("numberText(2, 4), the last", x.numberText(2, 4), '1');
            due("numberText(2, 5)", x.numberText(2, 5), NONE);
            due("numberText(2, -1)", x.numberText(2, -1), BAD);
        });
        Bounds.test("Returns its code", () -> {
            int[] want = {49, 46, 103};
            for (int i = 0; i < 3; i++) {
                int n = i;
                Bounds.noChange(Bounds::sample, "numberText(3, " + n + ")", x -> x.numberText(3, n), want[n]);
            }
            due("numberText(5, 46), the last of the longest", romans(38, 38, 38, 38, 38, 38).numberText(5, 46), 'i');
            due("numberText(5, 47)", romans(38, 38, 38, 38, 38, 38).numberText(5, 47), NONE);
        });
        Bounds.test("NONE if the number has not so many", () -> {
            none("numberText(2, #)", Bounds.LARGE, (x, n) -> x.numberText(2, n));
            none("numberText(2, #)", new int[] {5, 6, 47, 52, 53, 54}, (x, n) -> x.numberText(2, n));
            none("numberText(0, #)", new int[] {1, 2}, (x, n) -> x.numberText(0, n));
            OutlineEditor x = Bounds.sample();
            x.numberText(2, 4);
            due("numberText(0, 1), after a longer one was asked", x.numberText(0, 1), NONE);
            x.setStart(0, -1);
            due("numberText(0, 0), the number is empty", x.numberText(0, 0), NONE);
            due("numberText(0, -1), the number is empty", x.numberText(0, -1), BAD);
        });
        Bounds.test("BAD if there is no such heading or i is negative", () -> {
            Bounds.bad("numberText(#, 0)", Bounds.NO_HEADINGS, (x, n) -> x.numberText(n, 0));
            Bounds.bad("numberText(#, 99)", Bounds.NO_HEADINGS, (x, n) -> x.numberText(n, 99));
            Bounds.bad("numberText(0, #)", Bounds.NEGATIVE, (x, n) -> x.numberText(0, n));
            Bounds.bad("numberText(6, #)", Bounds.NEGATIVE, (x, n) -> x.numberText(6, n));
        });
    }

    // ---- promise 25

    private static void write() {
        Bounds.section("Promise 25: write");
        Bounds.test("Appends a byte to the text", () -> {
            OutlineEditor x = Bounds.outline(1, 2);
            x.setScheme(2, 1);
            x.write('1');
            due("find(0), the text is 1", x.find(0), 0);
            x.write('.');
            due("find(0), the text is 1.", x.find(0), NONE);
            x.write('a');
            due("find(0), the text is 1.a", x.find(0), 1);
            due("told(7), it is no change", x.told(7), 3);
        });
        Bounds.test("`code`: the byte, 32 to 126", () -> {
            for (int code = 32; code <= 126; code++) {
                due("write(" + code + ")", new OutlineEditor().write(code), 1);
            }
            for (int code : Bounds.outside(32, 126)) {
                due("write(" + code + ")", new OutlineEditor().write(code), BAD);
            }
        });
        Bounds.test("Returns the new length of the text", () -> {
            OutlineEditor x = new OutlineEditor();
            for (int length = 1; length <= 40; length++) {
                due("write('x')", x.write('x'), length);
            }
            x.wipe();
            due("write('x'), after wipe()", x.write('x'), 1);
        });
        Bounds.test("BAD if code is out of range", () -> {
            Bounds.bad("write(#)", Bounds.outside(32, 126), (x, n) -> x.write(n));
            for (int code : new int[] {0, 9, 10, 31, 127, 128, 255, 256 + 49, 65536 + 49}) {
                Bounds.refused(Bounds::sample, "write(" + code + ")", x -> x.write(code), BAD);
            }
        });
        Bounds.test("FULL if the text has 40 bytes", () -> {
            OutlineEditor x = romans(38, 38, 38, 38, 28, 1);
            String number = Bounds.number(x, 5);
            due("the length of the number", number.length(), 40);
            Bounds.write(x, number.substring(0, 39));
            due("write, 39 are there", x.write('i'), 40);
            due("find(0), all 40 bytes are there", x.find(0), 5);
            due("write, 40 are there", x.write('i'), FULL);
            due("told(8)", x.told(8), 40);
            due("find(0), they are the same still", x.find(0), 5);
            Bounds.refused(() -> {
                OutlineEditor y = new OutlineEditor();
                Bounds.write(y, "0123456789012345678901234567890123456789");
                return y;
            }, "write(126)", y -> y.write(126), FULL);
        });
    }

    /** Six levels with small Roman numbers and these starts. */
    private static OutlineEditor romans(int... starts) {
        OutlineEditor x = Bounds.outline(1, 2, 3, 4, 5, 6);
        for (int h = 0; h < 6; h++) {
            x.setStart(h, starts[h]);
            x.setScheme(h + 1, 3);
        }
        return x;
    }

    // ---- promise 26

    private static void wipe() {
        Bounds.section("Promise 26: wipe");
        Bounds.test("Empties the text", () -> {
            OutlineEditor x = Bounds.sample();
            x.wipe();
            due("told(8)", x.told(8), 0);
            due("find(0)", x.find(0), STATE);
            x.write('2');
            due("find(0), nothing of the old text is left", x.find(0), 4);
            due("told(7), it is no change", x.told(7), 8);
            OutlineEditor full = new OutlineEditor();
            Bounds.write(full, "0123456789012345678901234567890123456789");
            full.wipe();
            due("write, it is not full any more", full.write('x'), 1);
        });
        Bounds.test("Returns the length that it had", () -> {
            due("wipe(), empty", new OutlineEditor().wipe(), 0);
            for (int length = 0; length <= 40; length++) {
                OutlineEditor x = new OutlineEditor();
                Bounds.write(x, "0123456789012345678901234567890123456789".substring(0, length));
                due("wipe()", x.wipe(), length);
                due("wipe() again", x.wipe(), 0);
            }
        });
    }

    // ---- promise 27

    private static void find() {
        Bounds.section("Promise 27: find");
        Bounds.test("Finds a heading whose number is the text", () -> {
            String[] texts = {"1", "1.a", "1.a.1", "1.g", "2", "2.a"};
            for (int h = 0; h < 6; h++) {
                due("find(0) of " + texts[h], found(texts[h], 0), h);
            }
            for (String text : new String[] {"1.", ".1", "1.a.", "1.A", "1.a.1 ", " 1", "01", "3", "11", "?", "g", "1.b"}) {
                due("find(0) of " + text, found(text, 0), NONE);
            }
            OutlineEditor x = romans(38, 38, 38, 38, 28, 1);
            Bounds.write(x, Bounds.number(x, 5));
            due("find(0), with 40 bytes", x.find(0), 5);
            x.setStart(5, 2);
            due("find(0), a number with 41 bytes", x.find(0), NONE);
        });
        Bounds.test("`k`: the index among these headings, in the order of the list, 0 or more", () -> {
            OutlineEditor x = Bounds.flat(3);
            for (int h = 0; h < 3; h++) {
                x.setStart(h, 1);
            }
            x.drag(2, 0, 0);
            x.write('1');
            int[] want = {2, 0, 1, NONE};
            for (int k = 0; k < 4; k++) {
                due("find(" + k + "), by their places", x.find(k), want[k]);
            }
            due("find(-1)", x.find(-1), BAD);
            OutlineEditor all = Bounds.full();
            for (int h = 0; h < 30; h++) {
                all.setStart(h, 7);
            }
            all.write('7');
            due("find(0) of 30", all.find(0), 0);
            due("find(29) of 30", all.find(29), 29);
            due("find(30) of 30", all.find(30), NONE);
        });
        Bounds.test("Returns the heading", () -> {
            Bounds.noChange(Bounds::sample, "find(0)", x -> x.find(0), 1);
            OutlineEditor x = Bounds.full();
            Bounds.write(x, "30");
            due("find(0), the last one", x.find(0), 29);
        });
        Bounds.test("NONE if there are not so many", () -> {
            none("find(#)", Bounds.LARGE, (x, n) -> x.find(n));
            none("find(#)", new int[] {1, 2, 5, 6, 29, 30}, (x, n) -> x.find(n));
            OutlineEditor x = new OutlineEditor();
            x.write('1');
            due("find(0) without headings", x.find(0), NONE);
            OutlineEditor y = Bounds.outline(1);
            y.setStart(0, -1);
            y.write(' ');
            due("find(0), the number is empty", y.find(0), NONE);
        });
        Bounds.test("BAD if k is negative", () -> {
            Bounds.bad("find(#)", Bounds.NEGATIVE, (x, n) -> x.find(n));
            due("find(-1), the text is empty", new OutlineEditor().find(-1), BAD);
        });
        Bounds.test("STATE if the text is empty", () -> {
            Bounds.refused(() -> Bounds.outline(1), "find(0)", x -> x.find(0), STATE);
            OutlineEditor x = Bounds.sample();
            x.wipe();
            for (int k : new int[] {0, 1, 30, Bounds.GREATEST}) {
                due("find(" + k + ")", x.find(k), STATE);
            }
            OutlineEditor y = Bounds.outline(1);
            y.setStart(0, -1);
            due("find(0), a number is empty too", y.find(0), STATE);
        });
    }

    private static int found(String text, int k) {
        OutlineEditor x = Bounds.sample();
        x.wipe();
        Bounds.write(x, text);
        return x.find(k);
    }

    // ---- promise 28

    private static void keep() {
        Bounds.section("Promise 28: keep");
        Bounds.test("Keeps the state in an image, replacing what it kept before", () -> {
            for (int i = 0; i <= 1; i++) {
                OutlineEditor x = Bounds.sample();
                x.keep(i);
                String before = Bounds.state(x);
                x.remove(0, 0);
                x.setFilter(1);
                x.back(i);
                due("the state after back(" + i + ")", Bounds.state(x), before);
                OutlineEditor y = Bounds.outline(1, 2, 3);
                y.keep(i);
                y.remove(1, 0);
                y.keep(i);
                y.add(1, 1, 0);
                due("back(" + i + "), replaced by fewer headings", y.back(i), 1);
                due("list", Bounds.list(y), "0:1");
            }
        });
        Bounds.test("`i`: the image, 0 or 1", () -> {
            OutlineEditor x = Bounds.outline(1);
            due("keep(0)", x.keep(0), 1);
            due("back(1), only 0 was kept", x.back(1), STATE);
            x.add(1, 1, 0);
            due("keep(1)", x.keep(1), 2);
            due("back(0), as it was kept", x.back(0), 1);
            due("back(1)", x.back(1), 2);
            due("keep(2)", x.keep(2), BAD);
            due("keep(-1)", x.keep(-1), BAD);
        });
        Bounds.test("Returns the number of headings", () -> {
            due("keep(0), none", new OutlineEditor().keep(0), 0);
            due("keep(1), none", new OutlineEditor().keep(1), 0);
            Bounds.noChange(Bounds::sample, "keep(1)", x -> x.keep(1), 6);
            Bounds.noChange(Bounds::full, "keep(0)", x -> x.keep(0), 30);
        });
        Bounds.test("BAD if there is no such image", () -> Bounds.bad("keep(#)", Bounds.outside(0, 1), (x, n) -> x.keep(n)));
    }

    // ---- promise 29

    private static void back() {
        Bounds.section("Promise 29: back");
        Bounds.test("Makes the state of an image the state", () -> {
            OutlineEditor x = Bounds.sample();
            x.keep(1);
            String before = Bounds.state(x);
            OutlineEditor y = Bounds.sample();
            String hidden = Bounds.hidden(Bounds.sample());
            y.keep(1);
            for (OutlineEditor each : new OutlineEditor[] {x, y}) {
                each.remove(0, 0);
                each.setFilter(9);
                Bounds.forbid(each);
                each.setScheme(2, 4);
                each.back(1);
            }
            due("the state", Bounds.state(x), before);
            due("rules and schemes", Bounds.hidden(y), hidden);
            OutlineEditor empty = new OutlineEditor();
            empty.keep(0);
            empty.add(0, 1, 0);
            due("back(0), to no headings", empty.back(0), 0);
            due("told(0)", empty.told(0), 0);
            due("headingAt(0)", empty.headingAt(0), NONE);
            due("add", empty.add(0, 1, 0), 0);
        });
        Bounds.test("the image stays", () -> {
            OutlineEditor x = Bounds.outline(1, 2);
            x.keep(0);
            for (int i = 0; i < 3; i++) {
                x.remove(0, 0);
                due("back(0)", x.back(0), 2);
                x.setTags(1, 31);
                x.fold(0, 1);
            }
            x.back(0);
            due("tags, as they were kept", x.heading(1, 3), 0);
            due("folded, as it was kept", x.heading(0, 4), 0);
        });
        Bounds.test("This is a change", () -> {
            Bounds.change(Bounds::sample, "back(0)", x -> x.back(0), 7);
            Bounds.change(() -> {
                OutlineEditor x = new OutlineEditor();
                x.keep(1);
                return x;
            }, "back(1), nothing is different", x -> x.back(1), 0);
        });
        Bounds.test("`i`: the image", () -> {
            OutlineEditor x = Bounds.outline(1);
            x.keep(0);
            x.add(1, 1, 0);
            x.keep(1);
            due("back(0)", x.back(0), 1);
            due("back(1)", x.back(1), 2);
            due("back(2)", x.back(2), BAD);
            due("back(-1)", x.back(-1), BAD);
        });
        Bounds.test("Returns the number of headings", () -> {
            due("back(0), those of the image", Bounds.sample().back(0), 7);
            OutlineEditor x = Bounds.full();
            x.keep(1);
            x.remove(0, 0);
            due("back(1), 30", x.back(1), 30);
        });
        Bounds.test("BAD if there is no such image", () -> Bounds.bad("back(#)", Bounds.outside(0, 1), (x, n) -> x.back(n)));
        Bounds.test("STATE if it keeps nothing", () -> {
            Bounds.refused(Bounds::sample, "back(1)", x -> x.back(1), STATE);
            Bounds.refused(OutlineEditor::new, "back(0)", x -> x.back(0), STATE);
            Bounds.refused(OutlineEditor::new, "back(1)", x -> x.back(1), STATE);
            OutlineEditor x = new OutlineEditor();
            x.keep(1);
            due("back(1), it keeps an empty outline", x.back(1), 0);
            due("back(0), it keeps nothing", x.back(0), STATE);
            x.undo();
            due("back(1), after undo()", x.back(1), 0);
        });
    }
}
