import java.io.IOException;
import java.util.Arrays;

/** The sentences of promises 1 to 14 (a new object, the changes of headings, undo), each with a test of its own. */
public final class HeadingBoundsTest {
    private static final int BAD = Bounds.BAD, STATE = Bounds.STATE, FULL = Bounds.FULL, DENIED = Bounds.DENIED,
        NONE = Bounds.NONE;

    public static void main(String[] args) throws IOException {
        newObject();
        add();
        remove();
        promote();
        demote();
        drag();
        setKind();
        setTags();
        fold();
        setStart();
        setScheme();
        setRule();
        setFilter();
        undo();
        Bounds.end();
    }

    private static void due(String call, int got, int want) {
        Bounds.due(call, got, want);
    }

    private static void due(String what, String got, String want) {
        Bounds.due(what, got, want);
    }

    /** The least and the greatest heading of a full list are taken, the numbers beside them are not. */
    private static void leastAndGreatest(String call, Bounds.CallWith taken, int answerOfFirst, int answerOfLast) {
        due(call.replace("#", "0"), taken.on(Bounds.full(), 0), answerOfFirst);
        due(call.replace("#", "29"), taken.on(Bounds.full(), 29), answerOfLast);
        due(call.replace("#", "30"), taken.on(Bounds.full(), 30), BAD);
        due(call.replace("#", "-1"), taken.on(Bounds.full(), -1), BAD);
        due(call.replace("#", "0") + " without headings", taken.on(new OutlineEditor(), 0), BAD);
    }

    // ---- promise 1

    private static void newObject() {
        Bounds.section("Promise 1: A new object");
        Bounds.test("Creates an editor with an empty outline and an empty text", () -> {
            OutlineEditor x = new OutlineEditor();
            for (int what = 0; what <= 9; what++) {
                due("told(" + what + ")", x.told(what), 0);
            }
            due("headingAt(0)", x.headingAt(0), NONE);
            due("shownAt(0)", x.shownAt(0), NONE);
            due("child(-1, 0)", x.child(-1, 0), NONE);
            due("heading(0, 0)", x.heading(0, 0), BAD);
            due("reference(0, 0)", x.reference(0, 0), BAD);
            due("find(0)", x.find(0), STATE);
            due("wipe()", x.wipe(), 0);
            Bounds.sample();
            due("told(0), another object has headings", x.told(0), 0);
            due("told(8), another object has a text", x.told(8), 0);
            due("told(0), a second new object", new OutlineEditor().told(0), 0);
        });
        Bounds.test("the images keep nothing, and nothing can be undone", () -> {
            due("back(0)", new OutlineEditor().back(0), STATE);
            due("back(1)", new OutlineEditor().back(1), STATE);
            due("undo()", new OutlineEditor().undo(), STATE);
            due("told(7)", new OutlineEditor().told(7), 0);
        });
    }

    // ---- promise 2

    private static void add() {
        Bounds.section("Promise 2: add");
        Bounds.test("Adds a heading", () -> {
            OutlineEditor x = new OutlineEditor();
            due("add into an empty list", x.add(0, 1, 0), 0);
            due("list", Bounds.list(x), "0:1");
            x.add(1, 2, 0);
            due("list, at its end", Bounds.list(x), "0:1 1:2");
            x.add(0, 1, 0);
            due("list, at its beginning", Bounds.list(x), "2:1 0:1 1:2");
            x.add(2, 2, 0);
            due("list, between", Bounds.list(x), "2:1 0:1 3:2 1:2");
        });
        Bounds.test("This is a change", () -> {
            Bounds.change(OutlineEditor::new, "add(0, 1, 0)", x -> x.add(0, 1, 0), 0);
            Bounds.change(Bounds::sample, "add(0, 1, 3)", x -> x.add(0, 1, 3), 6);
            Bounds.change(Bounds::sample, "add(3, 3, 0)", x -> x.add(3, 3, 0), 6);
            Bounds.change(() -> Bounds.flat(29), "add(29, 2, 0)", x -> x.add(29, 2, 0), 29);
        });
        Bounds.test("`at`: its place in the list, 0 to the number of headings", HeadingBoundsTest::addAt);
        Bounds.test("`level`: its level, 1 to 6", () -> {
            for (int level = 1; level <= 6; level++) {
                OutlineEditor x = Bounds.outline(1, 2, 3, 4, 5, 6);
                due("add with level " + level, x.add(6, level, 0), 6);
                due("its level", x.heading(6, 1), level);
            }
            for (int level : Bounds.outside(1, 6)) {
                due("add with level " + level, Bounds.outline(1, 2, 3, 4, 5, 6).add(6, level, 0), BAD);
            }
        });
        Bounds.test("`kind`: its kind, 0 to 3", () -> {
            for (int kind = 0; kind <= 3; kind++) {
                OutlineEditor x = Bounds.outline(1);
                due("add of the kind " + kind, x.add(1, 2, kind), 1);
                due("its kind", x.heading(1, 2), kind);
            }
            Bounds.bad("add(6, 1, #)", Bounds.outside(0, 3), (x, n) -> x.add(6, 1, n));
        });
        Bounds.test("Returns the new heading", () -> {
            due("the first", new OutlineEditor().add(0, 1, 0), 0);
            due("the 30th", Bounds.flat(29).add(0, 1, 0), 29);
            OutlineEditor x = Bounds.flat(3);
            x.remove(1, 0);
            int h = x.add(0, 1, 2);
            due("add, with the number of a removed one", h, 1);
            due("headingAt(0)", x.headingAt(0), h);
            due("its kind", x.heading(h, 2), 2);
        });
        Bounds.test("BAD if an argument is out of range", () -> {
            int[][] wrong = {{-1, 1, 0}, {7, 1, 0}, {6, 0, 0}, {6, 7, 0}, {6, 1, -1}, {6, 1, 4}, {-1, 0, 0}, {7, 1, 4}, {6, 7, 4},
                {-1, -1, -1}, {Bounds.LEAST, Bounds.LEAST, Bounds.LEAST}, {Bounds.GREATEST, Bounds.GREATEST, Bounds.GREATEST}};
            for (int[] a : wrong) {
                Bounds.refused(Bounds::sample, "add(" + a[0] + ", " + a[1] + ", " + a[2] + ")", x -> x.add(a[0], a[1], a[2]), BAD);
            }
        });
        Bounds.test("STATE if the list would break the rule about levels (for this heading, or for the one behind it)",
            HeadingBoundsTest::addAgainstLevels);
        Bounds.test("FULL if there are 30 headings", () -> {
            due("add, 29 are there", Bounds.flat(29).add(29, 2, 0), 29);
            Bounds.refused(Bounds::full, "add(30, 1, 0)", x -> x.add(30, 1, 0), FULL);
            Bounds.refused(Bounds::full, "add(15, 2, 3)", x -> x.add(15, 2, 3), FULL);
            OutlineEditor x = Bounds.full();
            x.remove(0, 1);
            due("add, 29 are left", x.add(0, 1, 0), 0);
            due("add, 30 again", x.add(0, 1, 0), FULL);
        });
        Bounds.test("DENIED if a rule does not allow its kind there, or the kind of a heading that becomes its child",
            HeadingBoundsTest::addAgainstRules);
    }

    private static void addAt() {
        for (int at = 0; at <= 6; at++) {
            OutlineEditor x = Bounds.sample();
            due("add at " + at, x.add(at, at == 0 ? 1 : 2, 0), 6);
            due("its place", x.heading(6, 0), at);
            due("headingAt(" + at + ")", x.headingAt(at), 6);
        }
        Bounds.bad("add(#, 1, 0)", Bounds.outside(0, 6), (x, n) -> x.add(n, 1, 0));
        due("add at 1 without headings", new OutlineEditor().add(1, 1, 0), BAD);
        due("add at -1 without headings", new OutlineEditor().add(-1, 1, 0), BAD);
        due("add at 29 of 29", Bounds.flat(29).add(29, 1, 0), 29);
        due("add at 30 of 29", Bounds.flat(29).add(30, 1, 0), BAD);
        due("add at 31 of 30", Bounds.full().add(31, 1, 0), BAD);
    }

    private static void addAgainstLevels() {
        for (int level = 2; level <= 6; level++) {
            due("the only one with level " + level, new OutlineEditor().add(0, level, 0), STATE);
            due("the first one with level " + level, Bounds.outline(1, 2).add(0, level, 0), STATE);
        }
        int[] levels = {1, 2, 3, 4, 5, 6};
        for (int before = 1; before <= 6; before++) {
            int[] way = Arrays.copyOf(levels, before);
            for (int level = 1; level <= 6; level++) {
                due("level " + level + " behind " + before, Bounds.outline(way).add(before, level, 0),
                    level <= before + 1 ? before : STATE);
            }
        }
        for (int at = 1; at < 6; at++) {
            for (int level = 1; level <= at + 1; level++) {
                due("level " + level + " before level " + (at + 1), Bounds.outline(levels).add(at, level, 0), level >= at ? 6 : STATE);
            }
        }
        Bounds.refused(() -> Bounds.outline(1, 2, 3), "add(3, 5, 0), for this heading", x -> x.add(3, 5, 0), STATE);
        Bounds.refused(() -> Bounds.outline(1, 2, 3), "add(2, 1, 0), for the one behind it", x -> x.add(2, 1, 0), STATE);
        due("behind it one with a lower level", Bounds.outline(1, 2, 1).add(2, 3, 0), 3);
    }

    private static void addAgainstRules() {
        OutlineEditor x = Bounds.kinds(Bounds.levels(1, 2, 3), 0, 1, 2);
        x.setRule(-1, 7);
        due("kind 3 at level 1", x.add(3, 1, 3), DENIED);
        due("kind 3 before all, at level 1", x.add(0, 1, 3), DENIED);
        x.setRule(2, 0);
        due("under kind 2", x.add(3, 4, 0), DENIED);
        x.setRule(1, 14);
        due("kind 0 under kind 1, behind kind 2", x.add(3, 3, 0), DENIED);
        due("kind 3 under kind 1, behind kind 2", x.add(3, 3, 3), 3);
        x.undo();
        x.setRule(0, 1);
        due("kind 0 under kind 0, behind kind 2", x.add(3, 2, 0), 3);
        due("kind 1 under kind 0", x.add(4, 2, 1), DENIED);

        // Where it is put between 0 and 1, 1 and 3 become its children; 2 and 5 do not.
        for (int allowed = 0; allowed <= 15; allowed++) {
            OutlineEditor y = Bounds.kinds(Bounds.levels(1, 2, 3, 2, 1, 2), 0, 1, 2, 3, 0, 2);
            y.setRule(1, allowed);
            due("add above the kinds 1 and 3, allowed " + allowed, y.add(1, 1, 1), (allowed & 10) == 10 ? 6 : DENIED);
        }
        Bounds.Maker above = () -> {
            OutlineEditor y = Bounds.kinds(Bounds.levels(1, 2, 3, 2, 1, 2), 0, 1, 2, 3, 0, 2);
            y.setRule(1, 2);
            return y;
        };
        Bounds.refused(above, "add(1, 1, 1), the second child is not allowed", y -> y.add(1, 1, 1), DENIED);
        due("add of the kind 1 without children", above.make().add(6, 3, 1), 6);
        due("add of the kind 1 before a sibling", above.make().add(3, 2, 1), 6);
    }

    // ---- promise 3

    private static void remove() {
        Bounds.section("Promise 3: remove");
        Bounds.test("Removes a heading", () -> {
            for (int how = 0; how <= 1; how++) {
                OutlineEditor x = Bounds.outline(1);
                due("remove the only one", x.remove(0, how), 1);
                due("told(0)", x.told(0), 0);
                due("heading(0, 0)", x.heading(0, 0), BAD);
                due("remove it again", x.remove(0, how), BAD);
                OutlineEditor y = Bounds.flat(3);
                y.remove(0, how);
                due("list without the first", Bounds.list(y), "1:1 2:1");
                y.remove(2, how);
                due("list without the last", Bounds.list(y), "1:1");
            }
        });
        Bounds.test("This is a change", () -> {
            Bounds.change(Bounds::sample, "remove(0, 0)", x -> x.remove(0, 0), 4);
            Bounds.change(Bounds::sample, "remove(0, 1)", x -> x.remove(0, 1), 1);
            Bounds.change(Bounds::sample, "remove(1, 1)", x -> x.remove(1, 1), 1);
            Bounds.change(() -> Bounds.outline(1), "remove(0, 0)", x -> x.remove(0, 0), 1);
            Bounds.change(Bounds::full, "remove(29, 0)", x -> x.remove(29, 0), 1);
        });
        Bounds.test("`h`: the heading", () -> leastAndGreatest("remove(#, 0)", (x, n) -> x.remove(n, 0), 1, 1));
        Bounds.test("`how`: 0 with its part", () -> {
            String[] left = {"4:1 5:2", "0:1 3:2 4:1 5:2", "0:1 1:2 3:2 4:1 5:2", "0:1 1:2 2:3 4:1 5:2", "0:1 1:2 2:3 3:2",
                "0:1 1:2 2:3 3:2 4:1"};
            for (int h = 0; h < 6; h++) {
                OutlineEditor x = Bounds.sample();
                x.remove(h, 0);
                due("list after remove(" + h + ", 0)", Bounds.list(x), left[h]);
            }
        });
        Bounds.test("1 alone: the levels of the other headings of its part decrease by 1", () -> {
            String[] left = {"1:1 2:2 3:1 4:1 5:2", "0:1 2:2 3:2 4:1 5:2", "0:1 1:2 3:2 4:1 5:2", "0:1 1:2 2:3 4:1 5:2",
                "0:1 1:2 2:3 3:2 5:1", "0:1 1:2 2:3 3:2 4:1"};
            for (int h = 0; h < 6; h++) {
                OutlineEditor x = Bounds.sample();
                x.remove(h, 1);
                due("list after remove(" + h + ", 1)", Bounds.list(x), left[h]);
            }
            OutlineEditor six = Bounds.outline(1, 2, 3, 4, 5, 6);
            six.remove(0, 1);
            due("list of six levels", Bounds.list(six), "1:1 2:2 3:3 4:4 5:5");
        });
        Bounds.test("Returns how many headings are removed", () -> {
            int[] parts = {4, 2, 1, 1, 2, 1};
            for (int h = 0; h < 6; h++) {
                due("remove(" + h + ", 0)", Bounds.sample().remove(h, 0), parts[h]);
                due("remove(" + h + ", 1)", Bounds.sample().remove(h, 1), 1);
            }
            OutlineEditor x = Bounds.outline(1);
            for (int i = 1; i < 30; i++) {
                x.add(i, 2, 0);
            }
            due("remove(0, 0), all 30", x.remove(0, 0), 30);
        });
        Bounds.test("BAD if there is no such heading or how is out of range", () -> {
            Bounds.bad("remove(#, 0)", Bounds.NO_HEADINGS, (x, n) -> x.remove(n, 0));
            Bounds.bad("remove(#, 1)", Bounds.NO_HEADINGS, (x, n) -> x.remove(n, 1));
            Bounds.bad("remove(2, #)", Bounds.outside(0, 1), (x, n) -> x.remove(2, n));
            Bounds.bad("remove(6, #)", Bounds.outside(0, 1), (x, n) -> x.remove(6, n));
        });
        Bounds.test("DENIED if how is 1, and a rule does not allow the kind of a child of h where it would stand then",
            HeadingBoundsTest::removeAgainstRules);
    }

    private static void removeAgainstRules() {
        // 1 and 3 are the children of 0; 2 is the child of 1.
        for (int allowed = 0; allowed <= 15; allowed++) {
            OutlineEditor x = Bounds.kinds(Bounds.levels(1, 2, 3, 2, 1), 0, 1, 2, 3, 2);
            x.setRule(-1, allowed);
            due("remove(0, 1), at level 1 allowed " + allowed, x.remove(0, 1), (allowed & 10) == 10 ? 1 : DENIED);
        }
        // 2 comes under 0; its own child 3 and its new sibling 4 are not looked at.
        for (int allowed = 0; allowed <= 15; allowed++) {
            OutlineEditor x = Bounds.kinds(Bounds.levels(1, 2, 3, 4, 2), 0, 1, 2, 3, 1);
            x.setRule(0, allowed);
            due("remove(1, 1), under kind 0 allowed " + allowed, x.remove(1, 1), (allowed & 4) == 4 ? 1 : DENIED);
        }
        due("remove(0, 0), nothing is allowed", Bounds.strict().remove(0, 0), 4);
        due("remove(2, 1), it has no child", Bounds.strict().remove(2, 1), 1);
        due("remove(5, 1), the last one", Bounds.strict().remove(5, 1), 1);
        Bounds.refused(Bounds::strict, "remove(0, 1)", x -> x.remove(0, 1), DENIED);
        Bounds.refused(Bounds::strict, "remove(1, 1)", x -> x.remove(1, 1), DENIED);
        Bounds.refused(Bounds::strict, "remove(4, 1)", x -> x.remove(4, 1), DENIED);
    }

    // ---- promise 4

    private static void promote() {
        Bounds.section("Promise 4: promote");
        Bounds.test("Promotes a heading with its part: all levels in it decrease by 1", () -> {
            OutlineEditor x = Bounds.outline(1, 2, 3, 4, 5, 6, 2);
            x.promote(1);
            due("list, a part down to level 6", Bounds.list(x), "0:1 1:1 2:2 3:3 4:4 5:5 6:2");
            OutlineEditor y = Bounds.outline(1, 2, 3, 4, 5, 6);
            for (int level = 5; level >= 1; level--) {
                due("promote(5)", y.promote(5), level);
            }
            due("list, the last one alone", Bounds.list(y), "0:1 1:2 2:3 3:4 4:5 5:1");
            due("promote(5) beyond", y.promote(5), STATE);
        });
        Bounds.test("The part stays where it is in the list", () -> {
            OutlineEditor x = Bounds.outline(1, 2, 3, 2, 2, 1);
            x.promote(1);
            due("list", Bounds.list(x), "0:1 1:1 2:2 3:2 4:2 5:1");
            due("children of 1 then", Bounds.children(x, 1), "2 3 4");
            OutlineEditor y = Bounds.outline(1, 2, 2);
            y.promote(2);
            due("list, the last one", Bounds.list(y), "0:1 1:2 2:1");
        });
        Bounds.test("This is a change", () -> {
            Bounds.change(Bounds::sample, "promote(1)", x -> x.promote(1), 1);
            Bounds.change(Bounds::sample, "promote(5)", x -> x.promote(5), 1);
            Bounds.change(Bounds::sample, "promote(2)", x -> x.promote(2), 2);
        });
        Bounds.test("`h`: the heading", () -> {
            leastAndGreatest("promote(#)", (x, n) -> x.promote(n), STATE, STATE);
            OutlineEditor x = Bounds.flat(29);
            x.add(29, 2, 0);
            due("promote(29)", x.promote(29), 1);
        });
        Bounds.test("Returns its level then", () -> {
            for (int h = 1; h < 6; h++) {
                OutlineEditor x = Bounds.outline(1, 2, 3, 4, 5, 6);
                due("promote(" + h + ")", x.promote(h), h);
                due("its level", x.heading(h, 1), h);
            }
        });
        Bounds.test("BAD if there is no such heading", () -> {
            Bounds.bad("promote(#)", Bounds.NO_HEADINGS, (x, n) -> x.promote(n));
            due("promote(0) without headings", new OutlineEditor().promote(0), BAD);
        });
        Bounds.test("STATE if it has level 1", () -> {
            Bounds.refused(Bounds::sample, "promote(0), the first", x -> x.promote(0), STATE);
            Bounds.refused(Bounds::sample, "promote(4)", x -> x.promote(4), STATE);
            due("promote(3), it has level 2", Bounds.sample().promote(3), 1);
            due("promote(0), the only one", Bounds.outline(1).promote(0), STATE);
        });
        Bounds.test("DENIED if a rule does not allow its kind there, or the kind of a heading outside of its part that becomes its "
            + "child", HeadingBoundsTest::promoteAgainstRules);
    }

    private static void promoteAgainstRules() {
        for (int allowed = 0; allowed <= 15; allowed++) {
            OutlineEditor x = Bounds.kinds(Bounds.levels(1, 2, 3), 0, 1, 2);
            x.setRule(-1, allowed);
            due("promote(1) to level 1, allowed " + allowed, x.promote(1), (allowed & 2) == 2 ? 1 : DENIED);
            OutlineEditor y = Bounds.kinds(Bounds.levels(1, 2, 3), 0, 1, 2);
            y.setRule(0, allowed);
            due("promote(2) under kind 0, allowed " + allowed, y.promote(2), (allowed & 4) == 4 ? 2 : DENIED);
            // 3 and 5 become children of 1; its child 2, its nephew 4, and 6 and 7 do not.
            OutlineEditor z = Bounds.kinds(Bounds.levels(1, 2, 3, 2, 3, 2, 1, 2), 0, 1, 0, 2, 0, 3, 0, 0);
            z.setRule(1, allowed);
            due("promote(1) above the kinds 2 and 3, allowed " + allowed, z.promote(1), (allowed & 12) == 12 ? 1 : DENIED);
        }
        OutlineEditor last = Bounds.kinds(Bounds.levels(1, 2, 2), 0, 0, 1);
        last.setRule(1, 0);
        last.setRule(0, 0);
        due("promote(2), the siblings before it are not looked at", last.promote(2), 1);
        Bounds.refused(Bounds::strict, "promote(1)", x -> x.promote(1), DENIED);
        Bounds.refused(Bounds::strict, "promote(2)", x -> x.promote(2), DENIED);
        Bounds.Maker behind = () -> {
            OutlineEditor x = Bounds.kinds(Bounds.levels(1, 2, 2), 0, 1, 3);
            x.setRule(1, 7);
            return x;
        };
        Bounds.refused(behind, "promote(1), the one behind it is not allowed", x -> x.promote(1), DENIED);
    }

    // ---- promise 5

    private static void demote() {
        Bounds.section("Promise 5: demote");
        Bounds.test("Demotes a heading with its part: all levels in it increase by 1", () -> {
            OutlineEditor x = Bounds.outline(1, 1, 2, 3, 4, 5, 1);
            due("demote(1)", x.demote(1), 2);
            due("list, a part down to level 6 then", Bounds.list(x), "0:1 1:2 2:3 3:4 4:5 5:6 6:1");
            OutlineEditor y = Bounds.outline(1, 2, 3, 4, 5, 1);
            for (int level = 2; level <= 6; level++) {
                due("demote(5)", y.demote(5), level);
            }
            due("list, down to level 6", Bounds.list(y), "0:1 1:2 2:3 3:4 4:5 5:6");
            due("demote(5) beyond", y.demote(5), STATE);
        });
        Bounds.test("This is a change", () -> {
            Bounds.change(Bounds::sample, "demote(3)", x -> x.demote(3), 3);
            Bounds.change(Bounds::sample, "demote(4)", x -> x.demote(4), 2);
        });
        Bounds.test("`h`: the heading", () -> leastAndGreatest("demote(#)", (x, n) -> x.demote(n), STATE, 2));
        Bounds.test("Returns its level then", () -> {
            for (int level = 1; level <= 5; level++) {
                int[] levels = {1, 2, 3, 4, 5};
                int[] way = Arrays.copyOf(levels, level + 1);
                way[level] = level;
                OutlineEditor x = Bounds.outline(way);
                due("demote(" + level + ")", x.demote(level), level + 1);
                due("its level", x.heading(level, 1), level + 1);
            }
        });
        Bounds.test("BAD if there is no such heading", () -> {
            Bounds.bad("demote(#)", Bounds.NO_HEADINGS, (x, n) -> x.demote(n));
            due("demote(0) without headings", new OutlineEditor().demote(0), BAD);
        });
        Bounds.test("STATE if it is the first child of its parent (or the first heading of the list), or a level of its part would "
            + "be above 6", HeadingBoundsTest::demoteNotPossible);
        Bounds.test("DENIED if a rule does not allow its kind under its new parent", HeadingBoundsTest::demoteAgainstRules);
    }

    private static void demoteNotPossible() {
        Bounds.refused(Bounds::sample, "demote(0), the first of the list", x -> x.demote(0), STATE);
        Bounds.refused(Bounds::sample, "demote(1), a first child", x -> x.demote(1), STATE);
        Bounds.refused(Bounds::sample, "demote(5), the first child of another one", x -> x.demote(5), STATE);
        due("demote(0), the only one", Bounds.outline(1).demote(0), STATE);
        due("demote(3), a second child", Bounds.sample().demote(3), 3);
        due("demote(4), the second with level 1", Bounds.sample().demote(4), 2);
        Bounds.refused(() -> Bounds.outline(1, 1, 2, 3, 4, 5, 6), "demote(1), its last would be too deep", x -> x.demote(1), STATE);
        Bounds.refused(() -> Bounds.outline(1, 1, 2, 3, 4, 5, 6, 2), "demote(1), one between would be too deep", x -> x.demote(1),
            STATE);
        Bounds.refused(() -> Bounds.outline(1, 2, 3, 4, 5, 6, 6), "demote(6), it has level 6", x -> x.demote(6), STATE);
        due("demote(1), the deepest has level 5", Bounds.outline(1, 1, 2, 3, 4, 5).demote(1), 2);
        due("demote(1), level 6 is outside of its part", Bounds.outline(1, 1, 2, 1, 2, 3, 4, 5, 6).demote(1), 2);
        due("demote(6), level 6 is before it", Bounds.outline(1, 2, 3, 4, 5, 6, 1).demote(6), 2);
    }

    private static void demoteAgainstRules() {
        for (int allowed = 0; allowed <= 15; allowed++) {
            // The new parent of 3 is 1; 2 just stands before it, and 4 stays its child.
            OutlineEditor x = Bounds.kinds(Bounds.levels(1, 2, 3, 2, 3), 0, 1, 2, 3, 0);
            x.setRule(1, allowed);
            x.setRule(0, 0);
            x.setRule(2, 0);
            x.setRule(3, 0);
            due("demote(3) under kind 1, allowed " + allowed, x.demote(3), (allowed & 8) == 8 ? 3 : DENIED);
            OutlineEditor y = Bounds.kinds(Bounds.levels(1, 1), 2, 1);
            y.setRule(2, allowed);
            y.setRule(-1, 0);
            due("demote(1) under kind 2, allowed " + allowed, y.demote(1), (allowed & 2) == 2 ? 2 : DENIED);
        }
        Bounds.refused(Bounds::strict, "demote(3)", x -> x.demote(3), DENIED);
        Bounds.refused(Bounds::strict, "demote(4)", x -> x.demote(4), DENIED);
    }

    // ---- promise 6

    private static OutlineEditor six() {
        return Bounds.outline(1, 2, 3, 2, 1, 2);
    }

    private static void dragged(int h, int target, int where, int place, String list) {
        OutlineEditor x = six();
        String call = "drag(" + h + ", " + target + ", " + where + ")";
        due(call, x.drag(h, target, where), place);
        due("list after " + call, Bounds.list(x), list);
    }

    private static void drag() {
        Bounds.section("Promise 6: drag");
        Bounds.test("Drags a heading with its part to another place", () -> {
            dragged(0, 4, 1, 2, "4:1 5:2 0:1 1:2 2:3 3:2");
            dragged(4, 0, 0, 0, "4:1 5:2 0:1 1:2 2:3 3:2");
            dragged(2, 5, 1, 5, "0:1 1:2 3:2 4:1 5:2 2:2");
            OutlineEditor full = Bounds.full();
            due("the last of 30 to the first place", full.drag(29, 0, 0), 0);
            due("the first of 30 to the last place", full.drag(29, 28, 1), 29);
            due("the first place then", full.headingAt(0), 0);
        });
        Bounds.test("its level becomes that of its new place (that of the target for 0 and 1, greater by 1 for 2 and 3), and all "
            + "levels of its part change by as much", () -> {
                dragged(4, 2, 0, 2, "0:1 1:2 4:3 5:4 2:3 3:2");
                dragged(4, 2, 1, 3, "0:1 1:2 2:3 4:3 5:4 3:2");
                dragged(4, 2, 2, 3, "0:1 1:2 2:3 4:4 5:5 3:2");
                dragged(4, 2, 3, 3, "0:1 1:2 2:3 4:4 5:5 3:2");
                dragged(1, 4, 1, 4, "0:1 3:2 4:1 5:2 1:1 2:2");
                OutlineEditor x = Bounds.outline(1, 2, 3, 4, 5, 6);
                due("drag(4, 0, 1), up by 4", x.drag(4, 0, 1), 4);
                due("list", Bounds.list(x), "0:1 1:2 2:3 3:4 4:1 5:2");
                due("drag(4, 3, 2), down by 4", x.drag(4, 3, 2), 4);
                due("list", Bounds.list(x), "0:1 1:2 2:3 3:4 4:5 5:6");
            });
        Bounds.test("This is a change", () -> {
            for (int where = 0; where <= 3; where++) {
                int w = where;
                int[] places = {0, 4, 1, 4};
                Bounds.change(Bounds::sample, "drag(4, 0, " + w + ")", x -> x.drag(4, 0, w), places[w]);
            }
            Bounds.change(Bounds::sample, "drag(1, 0, 2), where it stands", x -> x.drag(1, 0, 2), 1);
        });
        Bounds.test("`h`: the heading", () -> {
            leastAndGreatest("drag(#, 15, 0)", (x, n) -> x.drag(n, 15, 0), 14, 15);
            leastAndGreatest("drag(#, 15, 1)", (x, n) -> x.drag(n, 15, 1), 15, 16);
        });
        Bounds.test("`target`: the other heading", () -> {
            leastAndGreatest("drag(15, #, 0)", (x, n) -> x.drag(15, n, 0), 0, 28);
            leastAndGreatest("drag(15, #, 1)", (x, n) -> x.drag(15, n, 1), 1, 29);
        });
        dragWhere();
        Bounds.test("Returns the new place of h in the list", HeadingBoundsTest::dragAnswers);
        Bounds.test("BAD if there is no such heading or where is out of range", () -> {
            Bounds.bad("drag(#, 0, 0)", Bounds.NO_HEADINGS, (x, n) -> x.drag(n, 0, 0));
            Bounds.bad("drag(5, #, 0)", Bounds.NO_HEADINGS, (x, n) -> x.drag(5, n, 0));
            Bounds.bad("drag(#, #, 0)", Bounds.NO_HEADINGS, (x, n) -> x.drag(n, n, 0));
            Bounds.bad("drag(5, 0, #)", Bounds.outside(0, 3), (x, n) -> x.drag(5, 0, n));
        });
        Bounds.test("STATE if the target belongs to the part of h (h itself does), or a level of the part would be above 6",
            HeadingBoundsTest::dragNotPossible);
        Bounds.test("DENIED if a rule does not allow the kind of h under its new parent (or at level 1)",
            HeadingBoundsTest::dragAgainstRules);
    }

    private static void dragWhere() {
        Bounds.test("`where`: 0 before the target, as its sibling", () -> {
            dragged(5, 1, 0, 1, "0:1 5:2 1:2 2:3 3:2 4:1");
            dragged(5, 0, 0, 0, "5:1 0:1 1:2 2:3 3:2 4:1");
            dragged(2, 0, 0, 0, "2:1 0:1 1:2 3:2 4:1 5:2");
            dragged(1, 4, 0, 2, "0:1 3:2 1:1 2:2 4:1 5:2");
            dragged(3, 2, 0, 2, "0:1 1:2 3:3 2:3 4:1 5:2");
            dragged(3, 4, 0, 3, "0:1 1:2 2:3 3:1 4:1 5:2");
            dragged(1, 3, 0, 1, "0:1 1:2 2:3 3:2 4:1 5:2");
        });
        Bounds.test("1 behind the part of the target, as its sibling", () -> {
            dragged(1, 0, 1, 2, "0:1 3:2 1:1 2:2 4:1 5:2");
            dragged(3, 0, 1, 3, "0:1 1:2 2:3 3:1 4:1 5:2");
            dragged(3, 5, 1, 5, "0:1 1:2 2:3 4:1 5:2 3:2");
            dragged(5, 2, 1, 3, "0:1 1:2 2:3 5:3 3:2 4:1");
            dragged(5, 1, 1, 3, "0:1 1:2 2:3 5:2 3:2 4:1");
            dragged(4, 0, 1, 4, "0:1 1:2 2:3 3:2 4:1 5:2");
            dragged(2, 1, 1, 2, "0:1 1:2 2:2 3:2 4:1 5:2");
        });
        Bounds.test("2 as the first child of the target", () -> {
            dragged(4, 1, 2, 2, "0:1 1:2 4:3 5:4 2:3 3:2");
            dragged(5, 2, 2, 3, "0:1 1:2 2:3 5:4 3:2 4:1");
            dragged(3, 0, 2, 1, "0:1 3:2 1:2 2:3 4:1 5:2");
            dragged(0, 5, 2, 2, "4:1 5:2 0:3 1:4 2:5 3:4");
            dragged(0, 4, 2, 1, "4:1 0:2 1:3 2:4 3:3 5:2");
            dragged(1, 0, 2, 1, "0:1 1:2 2:3 3:2 4:1 5:2");
        });
        Bounds.test("3 as its last child", () -> {
            dragged(4, 1, 3, 3, "0:1 1:2 2:3 4:3 5:4 3:2");
            dragged(5, 2, 3, 3, "0:1 1:2 2:3 5:4 3:2 4:1");
            dragged(1, 0, 3, 2, "0:1 3:2 1:2 2:3 4:1 5:2");
            dragged(0, 4, 3, 2, "4:1 5:2 0:2 1:3 2:4 3:3");
            dragged(3, 0, 3, 3, "0:1 1:2 2:3 3:2 4:1 5:2");
            dragged(2, 0, 3, 3, "0:1 1:2 3:2 2:2 4:1 5:2");
        });
    }

    /** The answer is asked back, for every h, target and where. */
    private static void dragAnswers() {
        for (int h = 0; h < 6; h++) {
            for (int i = 0; i < 24; i++) {
                OutlineEditor x = six();
                int answer = x.drag(h, i / 4, i % 4);
                if (answer != STATE) {
                    due("place of " + h + " after drag(" + h + ", " + i / 4 + ", " + i % 4 + ")", x.heading(h, 0), answer);
                }
            }
        }
        due("to the first place", six().drag(4, 0, 0), 0);
        due("to the last place", six().drag(3, 5, 3), 5);
        due("behind its old place, with a part of 4", six().drag(0, 4, 1), 2);
    }

    private static void dragNotPossible() {
        int[][] own = {{0, 0}, {0, 1}, {0, 2}, {0, 3}, {1, 1}, {1, 2}, {5, 5}, {4, 5}};
        for (int[] pair : own) {
            for (int where = 0; where <= 3; where++) {
                int w = where;
                Bounds.refused(Bounds::sample, "drag(" + pair[0] + ", " + pair[1] + ", " + w + ")",
                    x -> x.drag(pair[0], pair[1], w), STATE);
            }
        }
        due("drag(1, 3, 1), just behind its part", Bounds.sample().drag(1, 3, 1), 2);
        due("drag(1, 0, 3), just before its part", Bounds.sample().drag(1, 0, 3), 2);
        Bounds.Maker deep = () -> Bounds.outline(1, 2, 3, 4, 5, 6, 1, 2);
        due("drag(7, 5, 0), to level 6", deep.make().drag(7, 5, 0), 5);
        due("drag(7, 5, 1), to level 6", deep.make().drag(7, 5, 1), 6);
        due("drag(7, 4, 3), to level 6", deep.make().drag(7, 4, 3), 6);
        due("drag(6, 4, 1), its part to level 6", deep.make().drag(6, 4, 1), 6);
        due("drag(6, 3, 2), its part to level 6", deep.make().drag(6, 3, 2), 4);
        Bounds.refused(deep, "drag(7, 5, 2)", x -> x.drag(7, 5, 2), STATE);
        Bounds.refused(deep, "drag(7, 5, 3)", x -> x.drag(7, 5, 3), STATE);
        Bounds.refused(deep, "drag(6, 5, 0)", x -> x.drag(6, 5, 0), STATE);
        Bounds.refused(deep, "drag(6, 5, 1)", x -> x.drag(6, 5, 1), STATE);
        Bounds.refused(deep, "drag(6, 4, 2)", x -> x.drag(6, 4, 2), STATE);
        Bounds.refused(deep, "drag(0, 6, 2)", x -> x.drag(0, 6, 2), STATE);
        due("drag(0, 6, 1), level 6 stays level 6", deep.make().drag(0, 6, 1), 2);
        Bounds.refused(() -> Bounds.outline(1, 2, 3, 4, 1, 2, 3, 2), "drag(4, 3, 2), one between would be too deep",
            x -> x.drag(4, 3, 2), STATE);
        due("drag(4, 3, 0), one between to level 6", Bounds.outline(1, 2, 3, 4, 1, 2, 3, 2).drag(4, 3, 0), 3);
    }

    private static void dragAgainstRules() {
        for (int allowed = 0; allowed <= 15; allowed++) {
            for (int where = 0; where <= 3; where++) {
                String call = "drag, where " + where + ", allowed " + allowed;
                int denied = (allowed & 8) == 8 ? 0 : DENIED;
                // Only 4 (of the kind 3) is looked at; neither its child, nor the others that stand there.
                due(call + " at level 1", denied(allowed, -1, 4, 0, where), where < 2 ? denied : 0);
                due(call + " under kind 0", denied(allowed, 0, 4, where < 2 ? 1 : 0, where), denied);
                due(call + " under kind 1", denied(allowed, 1, 4, where < 2 ? 2 : 1, where), denied);
                due(call + " under kind 2", denied(allowed, 2, 4, where < 2 ? 1 : 2, where), where < 2 ? 0 : denied);
            }
        }
        for (int where = 0; where <= 3; where++) {
            int w = where;
            Bounds.refused(Bounds::strict, "drag(4, 0, " + w + ")", x -> x.drag(4, 0, w), DENIED);
            Bounds.refused(Bounds::strict, "drag(5, 1, " + w + ")", x -> x.drag(5, 1, w), DENIED);
        }
    }

    /** DENIED, or 0 for a place, where one rule is changed: the kinds of 0 to 5 are 0, 1, 2, 1, 3, 0. */
    private static int denied(int allowed, int rule, int h, int target, int where) {
        OutlineEditor x = Bounds.kinds(Bounds.levels(1, 2, 3, 2, 1, 2), 0, 1, 2, 1, 3, 0);
        x.setRule(rule, allowed);
        x.setRule(3, 0);
        return Math.min(0, x.drag(h, target, where));
    }

    // ---- promise 7

    private static void setKind() {
        Bounds.section("Promise 7: setKind");
        Bounds.test("Changes the kind of a heading", () -> {
            OutlineEditor x = Bounds.outline(1, 1);
            x.setKind(1, 3);
            due("kind of 1", x.heading(1, 2), 3);
            due("kind of 0", x.heading(0, 2), 0);
            x.setKind(1, 0);
            due("kind of 1", x.heading(1, 2), 0);
        });
        Bounds.test("This is a change", () -> {
            Bounds.change(Bounds::sample, "setKind(1, 3)", x -> x.setKind(1, 3), 1);
            Bounds.change(Bounds::sample, "setKind(1, 1), the kind that it has", x -> x.setKind(1, 1), 1);
        });
        Bounds.test("`h`: the heading", () -> leastAndGreatest("setKind(#, 3)", (x, n) -> x.setKind(n, 3), 0, 0));
        Bounds.test("`kind`: the new kind, 0 to 3", () -> {
            for (int kind = 0; kind <= 3; kind++) {
                OutlineEditor x = Bounds.outline(1);
                due("setKind(0, " + kind + ")", x.setKind(0, kind), 0);
                due("kind", x.heading(0, 2), kind);
            }
            Bounds.bad("setKind(5, #)", Bounds.outside(0, 3), (x, n) -> x.setKind(5, n));
        });
        Bounds.test("Returns the previous kind", () -> {
            for (int kind = 0; kind <= 3; kind++) {
                OutlineEditor x = new OutlineEditor();
                x.add(0, 1, kind);
                due("setKind(0, 3)", x.setKind(0, 3), kind);
                due("setKind(0, 0)", x.setKind(0, 0), 3);
                due("setKind(0, 0)", x.setKind(0, 0), 0);
            }
        });
        Bounds.test("BAD if there is no such heading or kind is out of range", () -> {
            Bounds.bad("setKind(#, 0)", Bounds.NO_HEADINGS, (x, n) -> x.setKind(n, 0));
            Bounds.bad("setKind(0, #)", Bounds.outside(0, 3), (x, n) -> x.setKind(0, n));
            Bounds.bad("setKind(6, #)", Bounds.outside(0, 3), (x, n) -> x.setKind(6, n));
            due("setKind(0, 0) without headings", new OutlineEditor().setKind(0, 0), BAD);
        });
        Bounds.test("DENIED if a rule does not allow the kind where the heading stands, or the kind of one of its children under it",
            HeadingBoundsTest::setKindAgainstRules);
    }

    private static void setKindAgainstRules() {
        for (int allowed = 0; allowed <= 15; allowed++) {
            for (int kind = 0; kind <= 3; kind++) {
                int answer = (allowed >> kind) % 2 == 1 ? 0 : DENIED;
                OutlineEditor x = Bounds.outline(1);
                x.setRule(-1, allowed);
                due("setKind(0, " + kind + ") at level 1, allowed " + allowed, x.setKind(0, kind), answer);
                OutlineEditor y = Bounds.kinds(Bounds.levels(1, 2, 3, 2), 3, 1, 1, 0);
                y.setRule(3, allowed);
                due("setKind(3, " + kind + ") under kind 3, allowed " + allowed, y.setKind(3, kind), answer);
            }
            // 1 and 3 are the children of 0; its grandchild 2, and 5, are not looked at.
            OutlineEditor z = Bounds.kinds(Bounds.levels(1, 2, 3, 2, 1, 2), 0, 1, 2, 3, 0, 0);
            z.setRule(2, allowed);
            due("setKind(0, 2) above the kinds 1 and 3, allowed " + allowed, z.setKind(0, 2), (allowed & 10) == 10 ? 0 : DENIED);
        }
        Bounds.refused(Bounds::strict, "setKind(5, 3), without children", x -> x.setKind(5, 3), DENIED);
        Bounds.Maker children = () -> {
            OutlineEditor x = Bounds.kinds(Bounds.levels(1, 2, 2), 0, 1, 3);
            x.setRule(2, 2);
            return x;
        };
        Bounds.refused(children, "setKind(0, 2), the last child is not allowed", x -> x.setKind(0, 2), DENIED);
    }

    // ---- promise 8

    private static void setTags() {
        Bounds.section("Promise 8: setTags");
        Bounds.test("Sets the tags of a heading", () -> {
            OutlineEditor x = Bounds.outline(1, 1);
            x.setTags(1, 31);
            x.setTags(1, 8);
            due("tags of 1, not those before too", x.heading(1, 3), 8);
            due("tags of 0", x.heading(0, 3), 0);
            x.setTags(1, 0);
            due("tags of 1, none", x.heading(1, 3), 0);
        });
        Bounds.test("This is a change", () -> {
            Bounds.change(Bounds::sample, "setTags(2, 31)", x -> x.setTags(2, 31), 5);
            Bounds.change(Bounds::sample, "setTags(2, 5), the tags that it has", x -> x.setTags(2, 5), 5);
        });
        Bounds.test("`h`: the heading", () -> leastAndGreatest("setTags(#, 1)", (x, n) -> x.setTags(n, 1), 0, 0));
        Bounds.test("`tags`: the new set of tags, 0 to 31", () -> {
            for (int tags = 0; tags <= 31; tags++) {
                OutlineEditor x = Bounds.outline(1);
                due("setTags(0, " + tags + ")", x.setTags(0, tags), 0);
                due("tags", x.heading(0, 3), tags);
            }
            Bounds.bad("setTags(0, #)", Bounds.outside(0, 31), (x, n) -> x.setTags(0, n));
        });
        Bounds.test("Returns the previous set", () -> {
            OutlineEditor x = Bounds.outline(1);
            due("setTags(0, 31)", x.setTags(0, 31), 0);
            due("setTags(0, 0)", x.setTags(0, 0), 31);
            due("setTags(0, 16)", x.setTags(0, 16), 0);
            due("setTags(0, 1)", x.setTags(0, 1), 16);
        });
        Bounds.test("BAD if there is no such heading or tags is out of range", () -> {
            Bounds.bad("setTags(#, 0)", Bounds.NO_HEADINGS, (x, n) -> x.setTags(n, 0));
            Bounds.bad("setTags(2, #)", Bounds.outside(0, 31), (x, n) -> x.setTags(2, n));
            Bounds.bad("setTags(6, #)", Bounds.outside(0, 31), (x, n) -> x.setTags(6, n));
        });
    }

    // ---- promise 9

    private static void fold() {
        Bounds.section("Promise 9: fold");
        Bounds.test("Folds a heading, or unfolds it", () -> {
            OutlineEditor x = Bounds.outline(1, 2);
            x.fold(0, 1);
            due("folded", x.heading(0, 4), 1);
            due("folded, the one under it", x.heading(1, 4), 0);
            due("open, the one under it", x.heading(1, 10), 0);
            x.fold(0, 0);
            due("folded", x.heading(0, 4), 0);
            due("open, the one under it", x.heading(1, 10), 1);
            x.fold(1, 1);
            due("folded, without children", x.heading(1, 4), 1);
        });
        Bounds.test("This is a change", () -> {
            Bounds.change(Bounds::sample, "fold(0, 1)", x -> x.fold(0, 1), 0);
            Bounds.change(Bounds::sample, "fold(4, 0)", x -> x.fold(4, 0), 1);
            Bounds.change(Bounds::sample, "fold(4, 1), it is folded", x -> x.fold(4, 1), 1);
        });
        Bounds.test("`h`: the heading", () -> leastAndGreatest("fold(#, 1)", (x, n) -> x.fold(n, 1), 0, 0));
        Bounds.test("`on`: 1 folded, 0 not", () -> {
            OutlineEditor x = Bounds.outline(1);
            for (int on : new int[] {0, 1, 1, 0, 0}) {
                x.fold(0, on);
                due("folded after fold(0, " + on + ")", x.heading(0, 4), on);
            }
            Bounds.bad("fold(0, #)", Bounds.outside(0, 1), (y, n) -> y.fold(0, n));
        });
        Bounds.test("Returns 1 if it was folded, otherwise 0", () -> {
            OutlineEditor x = Bounds.outline(1);
            due("fold(0, 0)", x.fold(0, 0), 0);
            due("fold(0, 1)", x.fold(0, 1), 0);
            due("fold(0, 1)", x.fold(0, 1), 1);
            due("fold(0, 0)", x.fold(0, 0), 1);
            due("fold(0, 0)", x.fold(0, 0), 0);
        });
        Bounds.test("BAD if there is no such heading or on is out of range", () -> {
            Bounds.bad("fold(#, 1)", Bounds.NO_HEADINGS, (x, n) -> x.fold(n, 1));
            Bounds.bad("fold(#, 0)", Bounds.NO_HEADINGS, (x, n) -> x.fold(n, 0));
            Bounds.bad("fold(4, #)", Bounds.outside(0, 1), (x, n) -> x.fold(4, n));
            Bounds.bad("fold(6, #)", Bounds.outside(0, 1), (x, n) -> x.fold(6, n));
        });
    }

    // ---- promise 10

    private static void setStart() {
        Bounds.section("Promise 10: setStart");
        Bounds.test("Makes a heading unnumbered, or gives it a start", () -> {
            OutlineEditor x = Bounds.flat(3);
            x.setStart(1, 60);
            due("value of 1", x.heading(1, 6), 60);
            due("value of 0", x.heading(0, 6), 1);
            x.setStart(1, -1);
            due("value of 1, unnumbered", x.heading(1, 6), 0);
            due("value of 2", x.heading(2, 6), 2);
        });
        Bounds.test("This is a change", () -> {
            Bounds.change(Bounds::sample, "setStart(3, -1)", x -> x.setStart(3, -1), 7);
            Bounds.change(Bounds::sample, "setStart(0, 60)", x -> x.setStart(0, 60), 0);
            Bounds.change(Bounds::sample, "setStart(3, 7), the start that it has", x -> x.setStart(3, 7), 7);
        });
        Bounds.test("`h`: the heading", () -> leastAndGreatest("setStart(#, 5)", (x, n) -> x.setStart(n, 5), 0, 0));
        Bounds.test("`start`: its start, 1 to 60", () -> {
            for (int start = 1; start <= 60; start++) {
                OutlineEditor x = Bounds.outline(1, 1);
                due("setStart(1, " + start + ")", x.setStart(1, start), 0);
                due("start", x.heading(1, 5), start);
                due("value", x.heading(1, 6), start);
            }
            Bounds.bad("setStart(3, #)", Bounds.outside(-1, 60), (x, n) -> x.setStart(3, n));
        });
        Bounds.test("0 for none (it is numbered by the one before it)", () -> {
            OutlineEditor x = Bounds.flat(3);
            x.setStart(1, 9);
            x.setStart(2, 5);
            due("setStart(2, 0)", x.setStart(2, 0), 5);
            due("start", x.heading(2, 5), 0);
            due("value", x.heading(2, 6), 10);
            x.setStart(0, -1);
            x.setStart(0, 0);
            due("value of the first", x.heading(0, 6), 1);
        });
        Bounds.test("-1 for unnumbered", () -> {
            OutlineEditor x = Bounds.outline(1, 2);
            due("setStart(0, -1)", x.setStart(0, -1), 0);
            due("start", x.heading(0, 5), -1);
            due("value", x.heading(0, 6), 0);
            due("number", Bounds.number(x, 0), "");
            due("number of its child", Bounds.number(x, 1), "1");
            due("setStart(0, -2)", x.setStart(0, -2), BAD);
        });
        Bounds.test("Returns the previous one, as described for start", () -> {
            OutlineEditor x = Bounds.outline(1);
            int before = 0;
            for (int start : new int[] {1, 60, -1, -1, 0, 0, 60}) {
                due("setStart(0, " + start + ")", x.setStart(0, start), before);
                before = start;
            }
        });
        Bounds.test("BAD if there is no such heading or start is out of range", () -> {
            Bounds.bad("setStart(#, 1)", Bounds.NO_HEADINGS, (x, n) -> x.setStart(n, 1));
            Bounds.bad("setStart(#, -1)", Bounds.NO_HEADINGS, (x, n) -> x.setStart(n, -1));
            Bounds.bad("setStart(0, #)", Bounds.outside(-1, 60), (x, n) -> x.setStart(0, n));
            Bounds.bad("setStart(6, #)", Bounds.outside(-1, 60), (x, n) -> x.setStart(6, n));
        });
    }

    // ---- promise 11

    private static void setScheme() {
        Bounds.section("Promise 11: setScheme");
        Bounds.test("Sets the scheme of a level", () -> {
            for (int level = 1; level <= 6; level++) {
                OutlineEditor x = Bounds.outline(1, 2, 3, 4, 5, 6);
                x.setScheme(level, 2);
                StringBuilder want = new StringBuilder();
                for (int each = 1; each <= 6; each++) {
                    want.append(each == 1 ? "" : ".").append(each == level ? "A" : "1");
                }
                due("number with capital letters at level " + level, Bounds.number(x, 5), want.toString());
            }
        });
        Bounds.test("This is a change", () -> {
            Bounds.change(Bounds::sample, "setScheme(1, 5)", x -> x.setScheme(1, 5), 0);
            Bounds.change(Bounds::sample, "setScheme(6, 3)", x -> x.setScheme(6, 3), 0);
            Bounds.change(Bounds::sample, "setScheme(2, 1), the scheme that it has", x -> x.setScheme(2, 1), 1);
        });
        Bounds.test("`level`: the level, 1 to 6", () -> {
            due("setScheme(1, 1)", new OutlineEditor().setScheme(1, 1), 0);
            due("setScheme(6, 1)", new OutlineEditor().setScheme(6, 1), 0);
            Bounds.bad("setScheme(#, 1)", Bounds.outside(1, 6), (x, n) -> x.setScheme(n, 1));
        });
        Bounds.test("`scheme`: the new scheme, 0 to 5", () -> {
            String[] texts = {"4", "d", "D", "iv", "IV", ""};
            for (int scheme = 0; scheme <= 5; scheme++) {
                OutlineEditor x = Bounds.outline(1);
                x.setStart(0, 4);
                due("setScheme(1, " + scheme + ")", x.setScheme(1, scheme), 0);
                due("number", Bounds.number(x, 0), texts[scheme]);
            }
            Bounds.bad("setScheme(2, #)", Bounds.outside(0, 5), (x, n) -> x.setScheme(2, n));
        });
        Bounds.test("Returns the previous scheme", () -> {
            for (int level = 1; level <= 6; level++) {
                OutlineEditor x = new OutlineEditor();
                int before = 0;
                for (int scheme : new int[] {5, 1, 1, 4, 0, 3, 2, 0}) {
                    due("setScheme(" + level + ", " + scheme + ")", x.setScheme(level, scheme), before);
                    before = scheme;
                }
            }
        });
        Bounds.test("BAD if an argument is out of range", () -> {
            Bounds.bad("setScheme(#, 0)", Bounds.outside(1, 6), (x, n) -> x.setScheme(n, 0));
            Bounds.bad("setScheme(1, #)", Bounds.outside(0, 5), (x, n) -> x.setScheme(1, n));
            Bounds.bad("setScheme(0, #)", Bounds.outside(0, 5), (x, n) -> x.setScheme(0, n));
            Bounds.bad("setScheme(7, #)", Bounds.outside(0, 5), (x, n) -> x.setScheme(7, n));
        });
    }

    // ---- promise 12

    private static void setRule() {
        Bounds.section("Promise 12: setRule");
        Bounds.test("Sets which kinds are allowed", () -> {
            OutlineEditor x = Bounds.outline(1);
            x.setRule(0, 8);
            due("add of the kind 0 under kind 0", x.add(1, 2, 0), DENIED);
            due("add of the kind 3 under kind 0", x.add(1, 2, 3), 1);
            x.setRule(0, 15);
            due("add of the kind 0 under kind 0", x.add(1, 2, 0), 2);
            x.setRule(0, 0);
            due("add of the kind 3 under kind 0, none is allowed", x.add(1, 2, 3), DENIED);
        });
        Bounds.test("This is a change", () -> {
            Bounds.change(Bounds::sample, "setRule(3, 0)", x -> x.setRule(3, 0), 7);
            Bounds.change(Bounds::sample, "setRule(-1, 0)", x -> x.setRule(-1, 0), 15);
            Bounds.change(Bounds::sample, "setRule(0, 15), the rule that it has", x -> x.setRule(0, 15), 15);
        });
        Bounds.test("`kind`: the kind of the parent, 0 to 3, or -1 for level 1", () -> {
            for (int kind = 0; kind <= 3; kind++) {
                OutlineEditor x = new OutlineEditor();
                x.add(0, 1, kind);
                due("setRule(" + kind + ", 0)", x.setRule(kind, 0), 15);
                due("add under kind " + kind, x.add(1, 2, 0), DENIED);
                due("add at level 1", x.add(1, 1, 0), 1);
            }
            OutlineEditor y = Bounds.outline(1);
            due("setRule(-1, 0)", y.setRule(-1, 0), 15);
            due("add at level 1", y.add(1, 1, 0), DENIED);
            due("add under kind 0", y.add(1, 2, 0), 1);
            Bounds.bad("setRule(#, 0)", Bounds.outside(-1, 3), (x, n) -> x.setRule(n, 0));
        });
        Bounds.test("`kinds`: the set of the kinds that are allowed, 0 to 15", () -> {
            for (int kinds = 0; kinds <= 15; kinds++) {
                OutlineEditor x = new OutlineEditor();
                due("setRule(2, " + kinds + ")", x.setRule(2, kinds), 15);
                due("setRule(2, 0)", x.setRule(2, 0), kinds);
            }
            Bounds.bad("setRule(3, #)", Bounds.outside(0, 15), (x, n) -> x.setRule(3, n));
        });
        Bounds.test("Returns the previous set", () -> {
            for (int kind = -1; kind <= 3; kind++) {
                OutlineEditor x = new OutlineEditor();
                due("setRule(" + kind + ", 0)", x.setRule(kind, 0), 15);
                due("setRule(" + kind + ", 9)", x.setRule(kind, 9), 0);
                due("setRule(" + kind + ", 15)", x.setRule(kind, 15), 9);
                due("setRule(" + kind + ", 15)", x.setRule(kind, 15), 15);
            }
        });
        Bounds.test("BAD if an argument is out of range", () -> {
            Bounds.bad("setRule(#, 15)", Bounds.outside(-1, 3), (x, n) -> x.setRule(n, 15));
            Bounds.bad("setRule(-1, #)", Bounds.outside(0, 15), (x, n) -> x.setRule(-1, n));
            Bounds.bad("setRule(-2, #)", Bounds.outside(0, 15), (x, n) -> x.setRule(-2, n));
            Bounds.bad("setRule(4, #)", Bounds.outside(0, 15), (x, n) -> x.setRule(4, n));
        });
    }

    // ---- promise 13

    private static void setFilter() {
        Bounds.section("Promise 13: setFilter");
        Bounds.test("Sets the filter", () -> {
            OutlineEditor x = Bounds.sample();
            x.setFilter(2);
            due("told(6)", x.told(6), 2);
            due("shown, no match", Bounds.shown(x), "");
            x.setFilter(0);
            due("told(6)", x.told(6), 0);
            due("shown, all that are open", Bounds.shown(x), "0 1 2 3 4");
        });
        Bounds.test("This is a change", () -> {
            Bounds.change(Bounds::sample, "setFilter(31)", x -> x.setFilter(31), 4);
            Bounds.change(Bounds::sample, "setFilter(0)", x -> x.setFilter(0), 4);
            Bounds.change(OutlineEditor::new, "setFilter(0), the filter that it has", x -> x.setFilter(0), 0);
        });
        Bounds.test("`tags`: the new set of tags, 0 to 31", () -> {
            for (int tags = 0; tags <= 31; tags++) {
                OutlineEditor x = new OutlineEditor();
                due("setFilter(" + tags + ")", x.setFilter(tags), 0);
                due("told(6)", x.told(6), tags);
            }
            due("setFilter(32)", new OutlineEditor().setFilter(32), BAD);
            due("setFilter(-1)", new OutlineEditor().setFilter(-1), BAD);
        });
        Bounds.test("Returns the previous one", () -> {
            OutlineEditor x = new OutlineEditor();
            int before = 0;
            for (int tags : new int[] {31, 31, 1, 16, 0, 0, 9}) {
                due("setFilter(" + tags + ")", x.setFilter(tags), before);
                before = tags;
            }
        });
        Bounds.test("BAD if tags is out of range", () -> Bounds.bad("setFilter(#)", Bounds.outside(0, 31), (x, n) -> x.setFilter(n)));
    }

    // ---- promise 14

    private static void undo() {
        Bounds.section("Promise 14: undo");
        Bounds.test("Undoes a change, as described above", () -> {
            OutlineEditor x = Bounds.outline(1, 2);
            x.refer(0, 1);
            x.remove(1, 0);
            due("told(2)", x.told(2), 1);
            due("undo()", x.undo(), 3);
            due("list", Bounds.list(x), "0:1 1:2");
            due("references", Bounds.references(x), "0>1");
            due("undo()", x.undo(), 2);
            due("told(1)", x.told(1), 0);
            due("undo()", x.undo(), 1);
            due("undo()", x.undo(), 0);
            due("told(0)", x.told(0), 0);
        });
        Bounds.test("Returns how many changes can still be undone", () -> {
            OutlineEditor x = Bounds.flat(9);
            for (int left = 7; left >= 0; left--) {
                due("undo()", x.undo(), left);
                due("told(7)", x.told(7), left);
            }
            x.setFilter(1);
            due("undo() of one alone", x.undo(), 0);
        });
        Bounds.test("STATE if there is none", () -> {
            Bounds.refused(OutlineEditor::new, "undo(), a new object", x -> x.undo(), STATE);
            Bounds.refused(() -> {
                OutlineEditor x = Bounds.flat(9);
                for (int i = 0; i < 8; i++) {
                    x.undo();
                }
                return x;
            }, "undo(), all eight are undone", x -> x.undo(), STATE);
            OutlineEditor y = new OutlineEditor();
            y.write('1');
            y.keep(0);
            y.add(0, 2, 0);
            due("undo(), no call was a change", y.undo(), STATE);
        });
    }
}
