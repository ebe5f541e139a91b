/** What each promise of the document asks, by hand: ordinary calls, the edges that it names, wrong arguments. */
public final class PromisesTest {
    private static final int BAD = OutlineEditor.BAD;
    private static final int STATE = OutlineEditor.STATE;
    private static final int FULL = OutlineEditor.FULL;
    private static final int DENIED = OutlineEditor.DENIED;
    private static final int NONE = OutlineEditor.NONE;

    private static int wrong = 0;
    private static int promise = 0;

    public static void main(String[] args) {
        newObject();
        addPlacesAndNumbers();
        addErrors();
        addRules();
        removeWithPart();
        removeAlone();
        removeErrors();
        promote();
        promoteErrors();
        demote();
        demoteErrors();
        drag();
        dragWithinOwnParents();
        dragErrors();
        setKind();
        setTags();
        fold();
        setStart();
        setStartValues();
        setScheme();
        schemesInWords();
        setRule();
        setFilter();
        undo();
        undoRestoresAll();
        refer();
        forget();
        reference();
        referenceText();
        told();
        toldMisplaced();
        headingAt();
        shownAt();
        shownUnderFilter();
        heading();
        child();
        numberText();
        numberLeavesOut();
        write();
        wipe();
        find();
        keep();
        back();
        codeOrder();
        errorsChangeNothing();
        extremeArguments();
        fullList();
        System.out.println(wrong == 0 ? "all promises are kept" : wrong + " answers are not as due");
        if (wrong != 0) {
            System.exit(1);
        }
    }

    // ---- helpers

    private static void due(String call, int got, int want) {
        if (got != want) {
            wrong++;
            System.out.println("promise " + promise + ": " + call + " answered " + got + ", due is " + want);
        }
    }

    private static void due(String call, String got, String want) {
        if (!got.equals(want)) {
            wrong++;
            System.out.println("promise " + promise + ": " + call + " is '" + got + "', due is '" + want + "'");
        }
    }

    /** An outline of headings 0, 1, 2, ... with these levels, all of the kind 0. */
    private static OutlineEditor outline(int... levels) {
        OutlineEditor x = new OutlineEditor();
        for (int i = 0; i < levels.length; i++) {
            due("add while building", x.add(i, levels[i], 0), i);
        }
        return x;
    }

    /** The list as "heading:level heading:level ...". */
    private static String list(OutlineEditor x) {
        StringBuilder out = new StringBuilder();
        for (int p = 0; x.headingAt(p) != NONE; p++) {
            int h = x.headingAt(p);
            out.append(p == 0 ? "" : " ").append(h).append(':').append(x.heading(h, 1));
        }
        return out.toString();
    }

    private static String number(OutlineEditor x, int h) {
        StringBuilder out = new StringBuilder();
        for (int i = 0; x.numberText(h, i) >= 0; i++) {
            out.append((char) x.numberText(h, i));
        }
        due("heading(" + h + ", 12)", x.heading(h, 12), out.length());
        return out.toString();
    }

    private static String textOf(OutlineEditor x, int k) {
        StringBuilder out = new StringBuilder();
        for (int i = 0; x.referenceText(k, i) >= 0; i++) {
            out.append((char) x.referenceText(k, i));
        }
        due("reference(" + k + ", 4)", x.reference(k, 4), out.length());
        return out.toString();
    }

    private static String shown(OutlineEditor x) {
        StringBuilder out = new StringBuilder();
        for (int k = 0; x.shownAt(k) >= 0; k++) {
            out.append(k == 0 ? "" : " ").append(x.shownAt(k));
        }
        return out.toString();
    }

    private static void write(OutlineEditor x, String text) {
        for (int i = 0; i < text.length(); i++) {
            x.write(text.charAt(i));
        }
    }

    // ---- promise 1

    private static void newObject() {
        promise = 1;
        OutlineEditor x = new OutlineEditor();
        for (int what = 0; what <= 9; what++) {
            due("told(" + what + ")", x.told(what), 0);
        }
        due("undo()", x.undo(), STATE);
        due("back(0)", x.back(0), STATE);
        due("back(1)", x.back(1), STATE);
        due("find(0)", x.find(0), STATE);
        due("wipe()", x.wipe(), 0);
        due("headingAt(0)", x.headingAt(0), NONE);
        for (int level = 1; level <= 6; level++) {
            due("setScheme at first", x.setScheme(level, 0), 0);
        }
        for (int kind = -1; kind <= 3; kind++) {
            due("setRule at first", x.setRule(kind, 15), 15);
        }
        OutlineEditor y = outline(1);
        due("another object's headings", x.told(0), 0);
        due("its own headings", y.told(0), 1);
    }

    // ---- promise 2

    private static void addPlacesAndNumbers() {
        promise = 2;
        OutlineEditor x = outline(1, 2);
        due("add(2, 2, 3)", x.add(2, 2, 3), 2);
        due("add(0, 1, 1)", x.add(0, 1, 1), 3);
        due("add(2, 2, 2)", x.add(2, 2, 2), 4);
        due("list", list(x), "3:1 0:1 4:2 1:2 2:2");
        due("heading(2, 2)", x.heading(2, 2), 3);
        due("told(7)", x.told(7), 5);
        x.setTags(0, 5);
        x.fold(0, 1);
        x.setStart(0, 7);
        x.remove(0, 1);
        due("list", list(x), "3:1 4:1 1:1 2:1");
        due("add(4, 2, 0)", x.add(4, 2, 0), 0);
        for (int what = 2; what <= 5; what++) {
            due("heading(0, " + what + ") of a new one", x.heading(0, what), 0);
        }
        x.remove(4, 0);
        x.remove(3, 0);
        due("the lowest free number", x.add(0, 1, 0), 3);
        due("the next free number", x.add(0, 1, 0), 4);
        due("list", list(x), "4:1 3:1 1:1 2:1 0:2");
    }

    private static void addErrors() {
        OutlineEditor x = outline(1, 2, 3);
        due("add(-1, 1, 0)", x.add(-1, 1, 0), BAD);
        due("add(4, 1, 0)", x.add(4, 1, 0), BAD);
        due("add(3, 0, 0)", x.add(3, 0, 0), BAD);
        due("add(3, 7, 0)", x.add(3, 7, 0), BAD);
        due("add(3, 1, -1)", x.add(3, 1, -1), BAD);
        due("add(3, 1, 4)", x.add(3, 1, 4), BAD);
        due("add(0, 2, 0)", x.add(0, 2, 0), STATE);
        due("add(1, 3, 0)", x.add(1, 3, 0), STATE);
        due("add(2, 1, 0)", x.add(2, 1, 0), STATE);
        due("add(3, 5, 0)", x.add(3, 5, 0), STATE);
        due("told(7)", x.told(7), 3);
        due("add(3, 4, 0)", x.add(3, 4, 0), 3);
        due("add(4, 5, 0)", x.add(4, 5, 0), 4);
        due("add(5, 6, 0)", x.add(5, 6, 0), 5);
        due("add(6, 6, 0)", x.add(6, 6, 0), 6);
        for (int i = 7; i < 30; i++) {
            due("add up to 30", x.add(i, 1, 0), i);
        }
        due("add beyond 30", x.add(30, 1, 0), FULL);
        due("add(31, 1, 0)", x.add(31, 1, 0), BAD);
        due("add(30, 3, 0), full", x.add(30, 3, 0), STATE);
        due("told(0)", x.told(0), 30);
        x.setRule(-1, 0);
        due("add, full and not allowed", x.add(30, 1, 0), FULL);
        x.remove(12, 0);
        due("add, not allowed", x.add(29, 1, 0), DENIED);
        due("add in the freed one's place", x.add(29, 2, 0), 12);
        due("add, full again", x.add(29, 2, 0), FULL);
    }

    private static void addRules() {
        OutlineEditor x = outline(1, 2, 3, 2);
        x.setKind(1, 1);
        x.setKind(3, 2);
        x.setRule(-1, 1 | 8);
        due("add(0, 1, 1)", x.add(0, 1, 1), DENIED);
        due("add(4, 1, 2)", x.add(4, 1, 2), DENIED);
        x.setRule(0, 2 | 4);
        due("add(1, 2, 0) under 0", x.add(1, 2, 0), DENIED);
        due("add(3, 2, 3) under 0", x.add(3, 2, 3), DENIED);
        due("add(4, 3, 3) under kind 2", x.add(4, 3, 3), 4);
        x.undo();
        x.setRule(3, 2);
        due("add(1, 1, 3) above kinds 1 and 2", x.add(1, 1, 3), DENIED);
        x.setRule(3, 2 | 4);
        due("add(1, 1, 3) above kinds 1 and 2", x.add(1, 1, 3), 4);
        due("list", list(x), "0:1 4:1 1:2 2:3 3:2");
        x.undo();
        x.setRule(2, 1);
        due("add(2, 2, 2) above kind 0", x.add(2, 2, 2), 4);
        due("parent of 2", x.heading(2, 7), 4);
        x.undo();
        x.setRule(2, 2);
        due("add(2, 2, 2) above kind 0", x.add(2, 2, 2), DENIED);
        due("add(3, 2, 2), no children", x.add(3, 2, 2), 4);
    }

    // ---- promise 3

    private static void removeWithPart() {
        promise = 3;
        OutlineEditor x = outline(1, 2, 3, 3, 2, 1);
        x.setRule(-1, 0);
        x.setRule(0, 0);
        due("remove(1, 0)", x.remove(1, 0), 3);
        due("list", list(x), "0:1 4:2 5:1");
        due("heading(2, 0)", x.heading(2, 0), BAD);
        due("undo()", x.undo(), 7);
        due("remove(0, 0)", x.remove(0, 0), 5);
        due("list", list(x), "5:1");
        due("remove(5, 0)", x.remove(5, 0), 1);
        due("told(0)", x.told(0), 0);
        due("told(5)", x.told(5), 0);
        due("heading(5, 0)", x.heading(5, 0), BAD);
        due("undo()", x.undo(), 7);
        due("remove(5, 1)", x.remove(5, 1), 1);
        due("promote(5)", x.promote(5), BAD);

        OutlineEditor y = outline(1, 2, 3, 1);
        y.refer(0, 3);
        y.refer(1, 3);
        y.refer(3, 2);
        y.refer(2, 0);
        y.refer(3, 0);
        y.refer(1, 2);
        due("remove(1, 0)", y.remove(1, 0), 2);
        due("told(1)", y.told(1), 3);
        due("reference(0, 0)", y.reference(0, 0), 0);
        due("reference(0, 1)", y.reference(0, 1), 3);
        due("reference(1, 0)", y.reference(1, 0), 3);
        due("reference(1, 1)", y.reference(1, 1), NONE);
        due("reference(2, 0)", y.reference(2, 0), 3);
        due("reference(2, 1)", y.reference(2, 1), 0);
        due("told(2)", y.told(2), 1);
        y.add(1, 2, 0);
        y.add(2, 2, 0);
        due("broken stays broken", y.reference(1, 1), NONE);
    }

    private static void removeAlone() {
        OutlineEditor x = outline(1, 2, 3, 4, 3, 2, 1);
        x.refer(6, 1);
        x.refer(1, 6);
        x.refer(2, 3);
        due("remove(1, 1)", x.remove(1, 1), 1);
        due("list", list(x), "0:1 2:2 3:3 4:2 5:2 6:1");
        due("told(1)", x.told(1), 2);
        due("reference(0, 1)", x.reference(0, 1), NONE);
        due("reference(1, 1)", x.reference(1, 1), 3);
        due("remove(0, 1)", x.remove(0, 1), 1);
        due("list", list(x), "2:1 3:2 4:1 5:1 6:1");
        due("remove(6, 1)", x.remove(6, 1), 1);
        due("list", list(x), "2:1 3:2 4:1 5:1");
        due("told(7)", x.told(7), 8);
        due("undo()", x.undo(), 7);
        due("list", list(x), "2:1 3:2 4:1 5:1 6:1");
        due("undo()", x.undo(), 6);
        due("list", list(x), "0:1 2:2 3:3 4:2 5:2 6:1");
        due("undo()", x.undo(), 5);
        due("list", list(x), "0:1 1:2 2:3 3:4 4:3 5:2 6:1");
        due("told(1)", x.told(1), 3);
    }

    private static void removeErrors() {
        OutlineEditor x = outline(1, 2, 3, 4);
        due("remove(-1, 0)", x.remove(-1, 0), BAD);
        due("remove(4, 0)", x.remove(4, 0), BAD);
        due("remove(30, 0)", x.remove(30, 0), BAD);
        due("remove(0, -1)", x.remove(0, -1), BAD);
        due("remove(0, 2)", x.remove(0, 2), BAD);
        x.setKind(2, 2);
        x.setKind(3, 3);
        x.setRule(0, 1 | 8);
        due("remove(1, 1), kind 2 under 0", x.remove(1, 1), DENIED);
        due("remove(1, 3)", x.remove(1, 3), BAD);
        x.setRule(0, 4);
        due("remove(1, 1), the grandchild is not looked at", x.remove(1, 1), 1);
        x.setRule(-1, 1);
        due("remove(0, 1), kind 2 at level 1", x.remove(0, 1), DENIED);
        x.setRule(-1, 4);
        due("remove(0, 1), kind 2 at level 1", x.remove(0, 1), 1);
        due("list", list(x), "2:1 3:2");

        OutlineEditor y = outline(1, 2, 3, 2);
        y.setKind(3, 1);
        y.setRule(-1, 1);
        due("remove(0, 1), the second child", y.remove(0, 1), DENIED);
        y.setRule(0, 0);
        due("remove(3, 1), no child", y.remove(3, 1), 1);
    }

    // ---- promise 4

    private static void promote() {
        promise = 4;
        OutlineEditor x = outline(1, 2, 3, 3, 2, 3);
        due("promote(3)", x.promote(3), 2);
        due("list", list(x), "0:1 1:2 2:3 3:2 4:2 5:3");
        due("promote(1)", x.promote(1), 1);
        due("list", list(x), "0:1 1:1 2:2 3:2 4:2 5:3");
        due("parent of 4", x.heading(4, 7), 1);
        due("undo()", x.undo(), 7);
        due("list", list(x), "0:1 1:2 2:3 3:2 4:2 5:3");
    }

    private static void promoteErrors() {
        OutlineEditor x = outline(1, 2, 3, 3, 2, 1, 2);
        due("promote(-1)", x.promote(-1), BAD);
        due("promote(7)", x.promote(7), BAD);
        due("promote(0)", x.promote(0), STATE);
        x.setRule(-1, 14);
        due("promote(0), not allowed either", x.promote(0), STATE);
        due("promote(1), kind 0 at level 1", x.promote(1), DENIED);
        x.setRule(-1, 15);
        x.setKind(4, 3);
        x.setKind(2, 2);
        x.setRule(0, 1 | 4);
        due("promote(1) above 4", x.promote(1), DENIED);
        x.setRule(0, 1 | 8);
        due("promote(1), its own child is not looked at", x.promote(1), 1);
        x.undo();
        x.setRule(0, 2);
        due("promote(2), kind 2 under 0", x.promote(2), DENIED);
        x.setRule(0, 4);
        x.setRule(2, 2);
        due("promote(2) above 3", x.promote(2), DENIED);
        x.setRule(2, 1);
        due("promote(2) above 3", x.promote(2), 2);
        due("list", list(x), "0:1 1:2 2:2 3:3 4:2 5:1 6:2");
    }

    // ---- promise 5

    private static void demote() {
        promise = 5;
        OutlineEditor x = outline(1, 1, 2, 1);
        due("demote(1)", x.demote(1), 2);
        due("list", list(x), "0:1 1:2 2:3 3:1");
        due("demote(3)", x.demote(3), 2);
        due("parent of 3", x.heading(3, 7), 0);
        due("demote(3)", x.demote(3), 3);
        due("parent of 3", x.heading(3, 7), 1);
        due("demote(3)", x.demote(3), 4);
        due("demote(3)", x.demote(3), STATE);
        due("list", list(x), "0:1 1:2 2:3 3:4");
        due("undo()", x.undo(), 7);
        due("list", list(x), "0:1 1:2 2:3 3:3");
    }

    private static void demoteErrors() {
        OutlineEditor x = outline(1, 2, 2, 3, 4, 5, 6, 1);
        due("demote(-1)", x.demote(-1), BAD);
        due("demote(8)", x.demote(8), BAD);
        due("demote(0)", x.demote(0), STATE);
        due("demote(1)", x.demote(1), STATE);
        due("demote(2), too deep", x.demote(2), STATE);
        x.remove(6, 0);
        x.setRule(0, 14);
        due("demote(2), kind 0 under 1", x.demote(2), DENIED);
        due("demote(0), first", x.demote(0), STATE);
        x.setRule(0, 15);
        x.setKind(1, 1);
        x.setRule(1, 14);
        due("demote(2) under kind 1", x.demote(2), DENIED);
        x.setRule(1, 1);
        x.setRule(0, 0);
        due("demote(2), its children are not looked at", x.demote(2), 3);
        due("list", list(x), "0:1 1:2 2:3 3:4 4:5 5:6 7:1");
        due("demote(7) under kind 0", x.demote(7), DENIED);
        x.setRule(0, 1);
        due("demote(7) under kind 0", x.demote(7), 2);
        due("parent of 7", x.heading(7, 7), 0);
    }

    // ---- promise 6

    private static void drag() {
        promise = 6;
        OutlineEditor x = outline(1, 2, 3, 2, 1, 2, 1);
        x.keep(0);
        due("drag(1, 4, 0)", x.drag(1, 4, 0), 2);
        due("list", list(x), "0:1 3:2 1:1 2:2 4:1 5:2 6:1");
        x.back(0);
        due("drag(1, 4, 1)", x.drag(1, 4, 1), 4);
        due("list", list(x), "0:1 3:2 4:1 5:2 1:1 2:2 6:1");
        x.back(0);
        due("drag(1, 4, 2)", x.drag(1, 4, 2), 3);
        due("list", list(x), "0:1 3:2 4:1 1:2 2:3 5:2 6:1");
        x.back(0);
        due("drag(1, 4, 3)", x.drag(1, 4, 3), 4);
        due("list", list(x), "0:1 3:2 4:1 5:2 1:2 2:3 6:1");
        x.back(0);
        due("drag(4, 2, 0)", x.drag(4, 2, 0), 2);
        due("list", list(x), "0:1 1:2 4:3 5:4 2:3 3:2 6:1");
        x.back(0);
        due("drag(4, 1, 1)", x.drag(4, 1, 1), 3);
        due("list", list(x), "0:1 1:2 2:3 4:2 5:3 3:2 6:1");
        x.back(0);
        due("drag(4, 0, 2)", x.drag(4, 0, 2), 1);
        due("list", list(x), "0:1 4:2 5:3 1:2 2:3 3:2 6:1");
        x.back(0);
        due("drag(4, 0, 3)", x.drag(4, 0, 3), 4);
        due("list", list(x), "0:1 1:2 2:3 3:2 4:2 5:3 6:1");
        x.back(0);
        due("drag(6, 0, 0)", x.drag(6, 0, 0), 0);
        due("list", list(x), "6:1 0:1 1:2 2:3 3:2 4:1 5:2");
        x.back(0);
        due("drag(0, 6, 1)", x.drag(0, 6, 1), 3);
        due("list", list(x), "4:1 5:2 6:1 0:1 1:2 2:3 3:2");
    }

    private static void dragWithinOwnParents() {
        OutlineEditor x = outline(1, 2, 3, 2, 1);
        x.keep(0);
        due("drag(1, 0, 1)", x.drag(1, 0, 1), 2);
        due("list", list(x), "0:1 3:2 1:1 2:2 4:1");
        x.back(0);
        due("drag(1, 0, 3)", x.drag(1, 0, 3), 2);
        due("list", list(x), "0:1 3:2 1:2 2:3 4:1");
        x.back(0);
        due("drag(3, 0, 2)", x.drag(3, 0, 2), 1);
        due("list", list(x), "0:1 3:2 1:2 2:3 4:1");
        x.back(0);
        due("drag(2, 0, 0)", x.drag(2, 0, 0), 0);
        due("list", list(x), "2:1 0:1 1:2 3:2 4:1");
        x.back(0);
        due("drag(3, 0, 1)", x.drag(3, 0, 1), 3);
        due("list", list(x), "0:1 1:2 2:3 3:1 4:1");
        x.back(0);
        int before = x.told(7);
        due("drag(1, 0, 2) where it is", x.drag(1, 0, 2), 1);
        due("drag(1, 3, 0) where it is", x.drag(1, 3, 0), 1);
        due("drag(3, 1, 1) where it is", x.drag(3, 1, 1), 3);
        due("list", list(x), "0:1 1:2 2:3 3:2 4:1");
        due("changes also if nothing changes", x.told(7), Math.min(8, before + 3));
    }

    private static void dragErrors() {
        OutlineEditor x = outline(1, 2, 3, 4, 1, 2, 3, 1);
        due("drag(-1, 0, 0)", x.drag(-1, 0, 0), BAD);
        due("drag(8, 0, 0)", x.drag(8, 0, 0), BAD);
        due("drag(0, -1, 0)", x.drag(0, -1, 0), BAD);
        due("drag(0, 8, 0)", x.drag(0, 8, 0), BAD);
        due("drag(0, 4, -1)", x.drag(0, 4, -1), BAD);
        due("drag(0, 4, 4)", x.drag(0, 4, 4), BAD);
        for (int where = 0; where <= 3; where++) {
            due("drag(1, 1, " + where + ")", x.drag(1, 1, where), STATE);
            due("drag(1, 3, " + where + ")", x.drag(1, 3, where), STATE);
        }
        due("drag(0, 0, 4)", x.drag(0, 0, 4), BAD);
        due("drag(0, 6, 0), too deep? 4 + 2", x.drag(0, 6, 0), 2);
        due("list", list(x), "4:1 5:2 0:3 1:4 2:5 3:6 6:3 7:1");
        x.undo();
        due("drag(0, 6, 2), too deep", x.drag(0, 6, 2), STATE);
        due("drag(0, 6, 3), too deep", x.drag(0, 6, 3), STATE);
        x.setRule(-1, 14);
        due("drag(5, 0, 0) to level 1", x.drag(5, 0, 0), DENIED);
        due("drag(5, 0, 1) to level 1", x.drag(5, 0, 1), DENIED);
        due("drag(0, 4, 1) stays at level 1", x.drag(0, 4, 1), DENIED);
        due("drag(0, 6, 3), too deep", x.drag(0, 6, 3), STATE);
        due("drag(7, 0, 2)", x.drag(7, 0, 2), 1);
        x.undo();
        x.setRule(0, 14);
        due("drag(7, 0, 2)", x.drag(7, 0, 2), DENIED);
        due("drag(7, 0, 3)", x.drag(7, 0, 3), DENIED);
        due("drag(7, 1, 0)", x.drag(7, 1, 0), DENIED);
        due("drag(7, 1, 1)", x.drag(7, 1, 1), DENIED);
        x.setRule(1, 1);
        x.setRule(0, 2);
        due("drag(5, 7, 2), its child is not looked at", x.setKind(7, 0), DENIED);
        x.setRule(-1, 3);
        x.setKind(7, 1);
        due("drag(5, 7, 2), its child is not looked at", x.drag(5, 7, 2), 6);
    }

    // ---- promise 7

    private static void setKind() {
        promise = 7;
        OutlineEditor x = outline(1, 2, 3, 2);
        due("setKind(0, 1)", x.setKind(0, 1), 0);
        due("setKind(0, 3)", x.setKind(0, 3), 1);
        due("setKind(0, 3)", x.setKind(0, 3), 3);
        due("heading(0, 2)", x.heading(0, 2), 3);
        due("told(7)", x.told(7), 7);
        due("setKind(0, -1)", x.setKind(0, -1), BAD);
        due("setKind(0, 4)", x.setKind(0, 4), BAD);
        due("setKind(4, 0)", x.setKind(4, 0), BAD);
        due("setKind(-1, 0)", x.setKind(-1, 0), BAD);
        x.setRule(-1, 2 | 4);
        due("setKind(0, 0), level 1", x.setKind(0, 0), DENIED);
        due("setKind(0, 3), as it is", x.setKind(0, 3), DENIED);
        due("setKind(0, 1)", x.setKind(0, 1), 3);
        x.setRule(1, 1);
        due("setKind(1, 2) under 1", x.setKind(1, 2), DENIED);
        x.setRule(1, 1 | 4);
        due("setKind(3, 2) under 1", x.setKind(3, 2), 0);
        x.setRule(2, 1);
        due("setKind(0, 2), second child of kind 2", x.setKind(0, 2), DENIED);
        x.setRule(2, 4);
        due("setKind(0, 2), first child of kind 0", x.setKind(0, 2), DENIED);
        x.setRule(2, 1 | 4);
        x.setKind(2, 3);
        due("setKind(0, 2), grandchildren are not looked at", x.setKind(0, 2), 1);

        OutlineEditor y = outline(1, 2, 3, 2, 3);
        y.setKind(4, 3);
        y.setRule(1, 1);
        due("setKind(1, 1), another one's child is not looked at", y.setKind(1, 1), 0);
    }

    // ---- promise 8

    private static void setTags() {
        promise = 8;
        OutlineEditor x = outline(1, 2);
        due("setTags(1, 31)", x.setTags(1, 31), 0);
        due("setTags(1, 6)", x.setTags(1, 6), 31);
        due("setTags(1, 0)", x.setTags(1, 0), 6);
        due("heading(1, 3)", x.heading(1, 3), 0);
        due("undo()", x.undo(), 4);
        due("heading(1, 3)", x.heading(1, 3), 6);
        due("heading(0, 3)", x.heading(0, 3), 0);
        due("setTags(1, 32)", x.setTags(1, 32), BAD);
        due("setTags(1, -1)", x.setTags(1, -1), BAD);
        due("setTags(2, 0)", x.setTags(2, 0), BAD);
        due("setTags(-1, 0)", x.setTags(-1, 0), BAD);
        due("told(7)", x.told(7), 4);
    }

    // ---- promise 9

    private static void fold() {
        promise = 9;
        OutlineEditor x = outline(1, 2, 3, 1);
        due("fold(0, 1)", x.fold(0, 1), 0);
        due("fold(0, 1)", x.fold(0, 1), 1);
        due("heading(0, 4)", x.heading(0, 4), 1);
        due("heading(0, 10)", x.heading(0, 10), 1);
        due("heading(1, 10)", x.heading(1, 10), 0);
        due("heading(2, 10)", x.heading(2, 10), 0);
        due("heading(3, 10)", x.heading(3, 10), 1);
        due("told(3)", x.told(3), 2);
        due("fold(1, 1)", x.fold(1, 1), 0);
        due("fold(0, 0)", x.fold(0, 0), 1);
        due("heading(1, 10)", x.heading(1, 10), 1);
        due("heading(2, 10)", x.heading(2, 10), 0);
        due("told(7)", x.told(7), 8);
        due("fold(0, 2)", x.fold(0, 2), BAD);
        due("fold(0, -1)", x.fold(0, -1), BAD);
        due("fold(4, 1)", x.fold(4, 1), BAD);
        due("fold(-1, 1)", x.fold(-1, 1), BAD);
        due("undo()", x.undo(), 7);
        due("heading(0, 4)", x.heading(0, 4), 1);
    }

    // ---- promise 10

    private static void setStart() {
        promise = 10;
        OutlineEditor x = outline(1, 2);
        due("setStart(1, 60)", x.setStart(1, 60), 0);
        due("setStart(1, 1)", x.setStart(1, 1), 60);
        due("setStart(1, -1)", x.setStart(1, -1), 1);
        due("heading(1, 5)", x.heading(1, 5), -1);
        due("setStart(1, 0)", x.setStart(1, 0), -1);
        due("heading(1, 5)", x.heading(1, 5), 0);
        due("told(7)", x.told(7), 6);
        due("setStart(1, 61)", x.setStart(1, 61), BAD);
        due("setStart(1, -2)", x.setStart(1, -2), BAD);
        due("setStart(2, 1)", x.setStart(2, 1), BAD);
        due("setStart(-1, 1)", x.setStart(-1, 1), BAD);
        due("told(7)", x.told(7), 6);
    }

    private static void setStartValues() {
        OutlineEditor x = outline(1, 2, 3, 3, 2, 2, 2, 1, 2, 1);
        String[] first = {"1", "1.1", "1.1.1", "1.1.2", "1.2", "1.3", "1.4", "2", "2.1", "3"};
        for (int h = 0; h < first.length; h++) {
            due("number of " + h, number(x, h), first[h]);
        }
        x.setStart(1, -1);
        due("value of 1", x.heading(1, 6), 0);
        due("value of 4 behind an unnumbered one", x.heading(4, 6), 1);
        x.setStart(5, 7);
        x.setStart(6, -1);
        x.setStart(0, 60);
        due("value of 5", x.heading(5, 6), 7);
        due("value of 7", x.heading(7, 6), 61);
        due("number of 2", number(x, 2), "60.1");
        due("number of 6", number(x, 6), "");
        due("number of 9", number(x, 9), "62");
        x.setStart(6, 0);
        due("number of 6", number(x, 6), "60.8");
        x.setStart(5, -1);
        due("number of 6", number(x, 6), "60.2");
        x.setStart(5, 0);
        x.setStart(4, 3);
        due("number of 6", number(x, 6), "60.5");
    }

    // ---- promise 11

    private static void setScheme() {
        promise = 11;
        OutlineEditor x = outline(1, 2, 3, 4, 5, 6);
        due("number at first", number(x, 5), "1.1.1.1.1.1");
        due("setScheme(1, 1)", x.setScheme(1, 1), 0);
        due("setScheme(2, 2)", x.setScheme(2, 2), 0);
        due("setScheme(3, 3)", x.setScheme(3, 3), 0);
        due("setScheme(4, 4)", x.setScheme(4, 4), 0);
        due("setScheme(5, 5)", x.setScheme(5, 5), 0);
        due("number", number(x, 5), "a.A.i.I.1");
        due("setScheme(6, 1)", x.setScheme(6, 1), 0);
        due("number", number(x, 5), "a.A.i.I.a");
        due("setScheme(5, 0)", x.setScheme(5, 0), 5);
        due("setScheme(1, 2)", x.setScheme(1, 2), 1);
        due("told(7)", x.told(7), 8);
        due("undo()", x.undo(), 7);
        due("number", number(x, 5), "a.A.i.I.1.a");
        due("setScheme(0, 0)", x.setScheme(0, 0), BAD);
        due("setScheme(7, 0)", x.setScheme(7, 0), BAD);
        due("setScheme(1, -1)", x.setScheme(1, -1), BAD);
        due("setScheme(1, 6)", x.setScheme(1, 6), BAD);
        due("told(7)", x.told(7), 7);
    }

    private static void schemesInWords() {
        int[] values = {1, 2, 3, 4, 5, 6, 8, 9, 10, 11, 14, 19, 20, 26, 27, 28, 39, 40, 49, 50, 52, 53, 60};
        String[] letters = {"a", "b", "c", "d", "e", "f", "h", "i", "j", "k", "n", "s", "t", "z", "aa", "ab", "am", "an",
            "aw", "ax", "az", "ba", "bh"};
        String[] romans = {"i", "ii", "iii", "iv", "v", "vi", "viii", "ix", "x", "xi", "xiv", "xix", "xx", "xxvi", "xxvii",
            "xxviii", "xxxix", "xl", "xlix", "l", "lii", "liii", "lx"};
        for (int i = 0; i < values.length; i++) {
            dueInAllSchemes(0, values[i], letters[i], romans[i]);
        }
        dueInAllSchemes(18, 78, "bz", "lxxviii");
        dueInAllSchemes(19, 79, "ca", "lxxix");
        dueInAllSchemes(28, 88, "cj", "lxxxviii");
        dueInAllSchemes(29, 89, "ck", "lxxxix");
    }

    /** In a new object each time, as one is used for 512 calls alone. */
    private static void dueInAllSchemes(int h, int value, String letters, String roman) {
        OutlineEditor x = new OutlineEditor();
        for (int i = 0; i <= h; i++) {
            x.add(i, 1, 0);
        }
        x.setStart(0, value - h);
        String[] want = {Integer.toString(value), letters, letters.toUpperCase(), roman, roman.toUpperCase(), ""};
        due("value", x.heading(h, 6), value);
        for (int scheme = 0; scheme <= 5; scheme++) {
            x.setScheme(1, scheme);
            due(value + " in scheme " + scheme, number(x, h), want[scheme]);
        }
    }

    // ---- promise 12

    private static void setRule() {
        promise = 12;
        OutlineEditor x = outline(1, 2);
        due("setRule(-1, 2)", x.setRule(-1, 2), 15);
        due("setRule(-1, 0)", x.setRule(-1, 0), 2);
        due("setRule(0, 4)", x.setRule(0, 4), 15);
        due("setRule(1, 5)", x.setRule(1, 5), 15);
        due("setRule(2, 6)", x.setRule(2, 6), 15);
        due("setRule(3, 7)", x.setRule(3, 7), 15);
        due("list stays", list(x), "0:1 1:2");
        due("told(9)", x.told(9), 2);
        due("told(7)", x.told(7), 8);
        due("setRule(0, 15)", x.setRule(0, 15), 4);
        due("setRule(1, 15)", x.setRule(1, 15), 5);
        due("setRule(2, 15)", x.setRule(2, 15), 6);
        due("setRule(3, 15)", x.setRule(3, 15), 7);
        due("setRule(-1, 15)", x.setRule(-1, 15), 0);
        due("setRule(-2, 0)", x.setRule(-2, 0), BAD);
        due("setRule(4, 0)", x.setRule(4, 0), BAD);
        due("setRule(0, -1)", x.setRule(0, -1), BAD);
        due("setRule(0, 16)", x.setRule(0, 16), BAD);
        due("undo()", x.undo(), 7);
        due("told(9)", x.told(9), 1);
    }

    // ---- promise 13

    private static void setFilter() {
        promise = 13;
        OutlineEditor x = outline(1);
        due("setFilter(31)", x.setFilter(31), 0);
        due("setFilter(3)", x.setFilter(3), 31);
        due("told(6)", x.told(6), 3);
        due("told(7)", x.told(7), 3);
        due("setFilter(32)", x.setFilter(32), BAD);
        due("setFilter(-1)", x.setFilter(-1), BAD);
        due("undo()", x.undo(), 2);
        due("told(6)", x.told(6), 31);
        due("setFilter(0)", x.setFilter(0), 31);
    }

    // ---- promise 14

    private static void undo() {
        promise = 14;
        OutlineEditor x = new OutlineEditor();
        for (int i = 0; i < 10; i++) {
            x.add(i, 1, 0);
            due("told(7)", x.told(7), Math.min(8, i + 1));
        }
        for (int i = 7; i >= 0; i--) {
            due("undo()", x.undo(), i);
            due("told(0)", x.told(0), i + 2);
        }
        due("undo()", x.undo(), STATE);
        due("list", list(x), "0:1 1:1");
        due("add again", x.add(0, 1, 0), 2);
        due("told(7)", x.told(7), 1);
        due("undo()", x.undo(), 0);
        due("list", list(x), "0:1 1:1");

        OutlineEditor y = outline(1);
        for (int round = 0; round < 5; round++) {
            for (int i = 0; i < 5; i++) {
                y.setFilter(round * 5 + i + 1);
            }
            due("told(7)", y.told(7), round == 0 ? 6 : 8);
            due("undo()", y.undo(), round == 0 ? 5 : 7);
            due("told(6)", y.told(6), round * 5 + 4);
        }
    }

    private static void undoRestoresAll() {
        OutlineEditor x = outline(1, 2, 1);
        x.refer(2, 1);
        write(x, "1.1");
        due("find(0)", x.find(0), 1);
        x.remove(0, 0);
        due("told(2)", x.told(2), 1);
        x.undo();
        due("told(2)", x.told(2), 0);
        due("reference text", textOf(x, 0), "1.1");
        due("text stays", x.told(8), 3);
        due("find(0)", x.find(0), 1);
        x.write('1');
        x.setKind(1, 2);
        x.undo();
        due("undo leaves the text", x.told(8), 4);
        due("kind", x.heading(1, 2), 0);
        x.keep(1);
        x.remove(0, 0);
        x.undo();
        x.undo();
        due("images are not undone", x.back(1), 3);
        due("told(1)", x.told(1), 1);
    }

    // ---- promise 15

    private static void refer() {
        promise = 15;
        OutlineEditor x = outline(1, 2);
        due("refer(0, 1)", x.refer(0, 1), 0);
        due("refer(1, 1)", x.refer(1, 1), 1);
        due("refer(0, 1)", x.refer(0, 1), 2);
        due("told(1)", x.told(1), 3);
        due("told(7)", x.told(7), 5);
        due("refer(0, 2)", x.refer(0, 2), BAD);
        due("refer(2, 0)", x.refer(2, 0), BAD);
        due("refer(-1, 0)", x.refer(-1, 0), BAD);
        due("refer(0, -1)", x.refer(0, -1), BAD);
        due("refer(0, -9)", x.refer(0, NONE), BAD);
        for (int k = 3; k < 12; k++) {
            due("refer(1, 0)", x.refer(1, 0), k);
        }
        due("refer beyond 12", x.refer(1, 0), FULL);
        due("refer beyond 12, no heading", x.refer(1, 5), BAD);
        due("undo()", x.undo(), 7);
        due("refer after undo", x.refer(1, 1), 11);
        due("reference(11, 1)", x.reference(11, 1), 1);
    }

    // ---- promise 16

    private static void forget() {
        promise = 16;
        OutlineEditor x = outline(1, 2, 3);
        x.refer(0, 1);
        x.refer(1, 2);
        x.refer(2, 0);
        due("forget(-1)", x.forget(-1), BAD);
        due("forget(3)", x.forget(3), BAD);
        due("forget(1)", x.forget(1), 2);
        due("reference(0, 0)", x.reference(0, 0), 0);
        due("reference(1, 0)", x.reference(1, 0), 2);
        due("reference(1, 1)", x.reference(1, 1), 0);
        due("forget(2)", x.forget(2), BAD);
        due("forget(0)", x.forget(0), 1);
        due("reference(0, 0)", x.reference(0, 0), 2);
        due("told(7)", x.told(7), 8);
        due("forget(0)", x.forget(0), 0);
        due("forget(0)", x.forget(0), BAD);
        due("undo()", x.undo(), 7);
        due("reference(0, 0)", x.reference(0, 0), 2);
        x.refer(0, 1);
        x.remove(1, 0);
        due("told(2)", x.told(2), 1);
        due("forget a broken one", x.forget(0), 0);
        due("told(2)", x.told(2), 0);
        for (int k = 0; k < 12; k++) {
            x.refer(0, 0);
        }
        due("forget(12)", x.forget(12), BAD);
        due("forget(0) of 12", x.forget(0), 11);
        due("forget(10) of 11", x.forget(10), 10);
    }

    // ---- promise 17

    private static void reference() {
        promise = 17;
        OutlineEditor x = outline(1, 2, 1, 2);
        x.refer(2, 1);
        x.refer(1, 3);
        x.refer(2, 2);
        due("reference(0, 0)", x.reference(0, 0), 2);
        due("reference(0, 1)", x.reference(0, 1), 1);
        due("reference(0, 2), before", x.reference(0, 2), 1);
        due("reference(1, 2), behind", x.reference(1, 2), 2);
        due("reference(2, 2), the same", x.reference(2, 2), 0);
        due("reference(0, 3)", x.reference(0, 3), 1);
        due("reference(0, 4)", x.reference(0, 4), 3);
        due("reference(2, 4)", x.reference(2, 4), 1);
        x.drag(1, 2, 3);
        due("reference(0, 2), now behind", x.reference(0, 2), 2);
        due("reference(1, 2), now before", x.reference(1, 2), 1);
        x.fold(2, 1);
        due("reference(0, 3), folded away", x.reference(0, 3), 0);
        due("reference(2, 3)", x.reference(2, 3), 1);
        x.setStart(1, -1);
        due("reference(0, 4), unnumbered", x.reference(0, 4), 0);
        due("told(2), unnumbered is not broken", x.told(2), 0);
        x.remove(1, 0);
        due("told(1)", x.told(1), 2);
        due("reference(0, 0) broken", x.reference(0, 0), 2);
        due("reference(0, 1) broken", x.reference(0, 1), NONE);
        due("reference(0, 2) broken", x.reference(0, 2), NONE);
        due("reference(0, 3) broken", x.reference(0, 3), NONE);
        due("reference(0, 4) broken", x.reference(0, 4), 1);
        due("reference(0, 5)", x.reference(0, 5), BAD);
        due("reference(0, -1)", x.reference(0, -1), BAD);
        due("reference(2, 0)", x.reference(2, 0), BAD);
        due("reference(-1, 0)", x.reference(-1, 0), BAD);
        x.setTags(0, 1);
        x.setFilter(1);
        due("reference(1, 3), filtered", x.reference(1, 3), 0);
    }

    // ---- promise 18

    private static void referenceText() {
        promise = 18;
        OutlineEditor x = outline(1, 2, 2, 1);
        x.refer(0, 2);
        due("text", textOf(x, 0), "1.2");
        due("referenceText(0, 3)", x.referenceText(0, 3), NONE);
        x.setScheme(2, 4);
        due("text", textOf(x, 0), "1.II");
        x.drag(2, 0, 2);
        due("text", textOf(x, 0), "1.I");
        x.setScheme(2, 5);
        due("text", textOf(x, 0), "");
        due("referenceText(0, 0)", x.referenceText(0, 0), NONE);
        x.remove(2, 1);
        due("text", textOf(x, 0), "?");
        due("referenceText(0, 0)", x.referenceText(0, 0), '?');
        due("referenceText(0, 1)", x.referenceText(0, 1), NONE);
        due("referenceText(0, -1)", x.referenceText(0, -1), BAD);
        due("referenceText(1, 0)", x.referenceText(1, 0), BAD);
        due("referenceText(-1, 0)", x.referenceText(-1, 0), BAD);
        x.add(0, 1, 0);
        due("told(0)", x.told(0), 4);
        due("a new heading with the number of the old one", x.headingAt(0), 2);
        due("text", textOf(x, 0), "?");
    }

    // ---- promise 19

    private static void told() {
        promise = 19;
        OutlineEditor x = outline(1, 2, 3, 1, 2);
        x.refer(0, 4);
        x.refer(0, 1);
        x.remove(4, 0);
        x.fold(1, 1);
        x.setTags(2, 2);
        x.setFilter(2);
        write(x, "abc");
        due("told(0)", x.told(0), 4);
        due("told(1)", x.told(1), 2);
        due("told(2)", x.told(2), 1);
        due("told(3)", x.told(3), 3);
        due("told(4)", x.told(4), 2);
        due("told(5)", x.told(5), 3);
        due("told(6)", x.told(6), 2);
        due("told(7)", x.told(7), 8);
        due("told(8)", x.told(8), 3);
        due("told(9)", x.told(9), 0);
        due("told(10)", x.told(10), BAD);
        due("told(-1)", x.told(-1), BAD);
        due("told(7) after asking", x.told(7), 8);
    }

    private static void toldMisplaced() {
        OutlineEditor x = outline(1, 2, 3, 2, 1);
        x.setKind(1, 1);
        x.setRule(0, 1);
        due("told(9)", x.told(9), 1);
        x.setRule(0, 0);
        due("told(9)", x.told(9), 2);
        x.setRule(1, 14);
        due("told(9)", x.told(9), 3);
        x.setRule(-1, 14);
        due("told(9)", x.told(9), 5);
        x.setRule(2, 0);
        x.setRule(3, 0);
        due("told(9)", x.told(9), 5);
    }

    // ---- promise 20

    private static void headingAt() {
        promise = 20;
        OutlineEditor x = outline(1, 2);
        x.add(0, 1, 0);
        due("headingAt(0)", x.headingAt(0), 2);
        due("headingAt(1)", x.headingAt(1), 0);
        due("headingAt(2)", x.headingAt(2), 1);
        due("headingAt(3)", x.headingAt(3), NONE);
        due("headingAt(30)", x.headingAt(30), NONE);
        due("headingAt(-1)", x.headingAt(-1), BAD);
        x.remove(2, 0);
        due("headingAt(2)", x.headingAt(2), NONE);
    }

    // ---- promise 21

    private static void shownAt() {
        promise = 21;
        OutlineEditor x = outline(1, 2, 3, 2, 1);
        due("shown", shown(x), "0 1 2 3 4");
        due("shownAt(5)", x.shownAt(5), NONE);
        due("shownAt(-1)", x.shownAt(-1), BAD);
        x.fold(1, 1);
        due("shown", shown(x), "0 1 3 4");
        due("shownAt(4)", x.shownAt(4), NONE);
        x.fold(0, 1);
        due("shown", shown(x), "0 4");
        x.fold(1, 0);
        due("shown", shown(x), "0 4");
        x.drag(4, 0, 0);
        due("shown", shown(x), "4 0");
    }

    private static void shownUnderFilter() {
        OutlineEditor x = outline(1, 2, 3, 2, 1, 2);
        x.setTags(2, 1);
        x.setTags(3, 6);
        x.setTags(4, 8);
        x.setFilter(1);
        due("shown", shown(x), "0 1 2");
        x.setFilter(2 | 16);
        due("shown", shown(x), "0 3");
        x.setFilter(8);
        due("shown, not what stands below a match", shown(x), "4");
        x.setFilter(16);
        due("shown", shown(x), "");
        due("shownAt(0)", x.shownAt(0), NONE);
        x.setFilter(1);
        x.fold(1, 1);
        due("shown, the match is folded away", shown(x), "0 1");
        x.fold(0, 1);
        due("shown, the match is folded away", shown(x), "0");
        x.setFilter(31);
        due("shown", shown(x), "0 4");
        x.setTags(0, 16);
        x.setFilter(16);
        due("shown, the first heading by its own tag", shown(x), "0");
        due("told(4)", x.told(4), 1);
    }

    // ---- promise 22

    private static void heading() {
        promise = 22;
        OutlineEditor x = outline(1, 2, 3, 3, 2, 1);
        x.setKind(1, 2);
        x.setTags(1, 9);
        x.fold(1, 1);
        x.setStart(1, 12);
        x.refer(0, 1);
        x.refer(1, 1);
        x.refer(1, 0);
        int[] want = {1, 2, 2, 9, 1, 12, 12, 0, 2, 3, 1, 1, 4, 2};
        for (int what = 0; what < want.length; what++) {
            due("heading(1, " + what + ")", x.heading(1, what), want[what]);
        }
        int[] wantOfThree = {3, 3, 0, 0, 0, 0, 2, 1, 0, 1, 0, 0, 6, 0};
        for (int what = 0; what < wantOfThree.length; what++) {
            due("heading(3, " + what + ")", x.heading(3, what), wantOfThree[what]);
        }
        due("heading(0, 7)", x.heading(0, 7), NONE);
        due("heading(5, 7)", x.heading(5, 7), NONE);
        due("heading(4, 7)", x.heading(4, 7), 0);
        due("heading(0, 8)", x.heading(0, 8), 2);
        x.add(6, 2, 0);
        due("heading(0, 8), not another one's child", x.heading(0, 8), 2);
        due("heading(5, 8)", x.heading(5, 8), 1);
        x.undo();
        due("heading(0, 9)", x.heading(0, 9), 5);
        due("heading(5, 9)", x.heading(5, 9), 1);
        due("heading(0, 13)", x.heading(0, 13), 1);
        due("heading(0, 14)", x.heading(0, 14), BAD);
        due("heading(0, -1)", x.heading(0, -1), BAD);
        due("heading(6, 0)", x.heading(6, 0), BAD);
        due("heading(-1, 0)", x.heading(-1, 0), BAD);
        due("heading(-9, 0)", x.heading(NONE, 0), BAD);
        x.setTags(5, 2);
        x.setFilter(2);
        due("heading(1, 11), filtered", x.heading(1, 11), 0);
        due("heading(1, 10), open still", x.heading(1, 10), 1);
    }

    // ---- promise 23

    private static void child() {
        promise = 23;
        OutlineEditor x = outline(1, 2, 3, 2, 1, 2);
        due("child(0, 0)", x.child(0, 0), 1);
        due("child(0, 1)", x.child(0, 1), 3);
        due("child(0, 2)", x.child(0, 2), NONE);
        due("child(1, 0)", x.child(1, 0), 2);
        due("child(2, 0)", x.child(2, 0), NONE);
        due("child(5, 0)", x.child(5, 0), NONE);
        due("child(-1, 0)", x.child(-1, 0), 0);
        due("child(-1, 1)", x.child(-1, 1), 4);
        due("child(-1, 2)", x.child(-1, 2), NONE);
        due("child(0, -1)", x.child(0, -1), BAD);
        due("child(-1, -1)", x.child(-1, -1), BAD);
        due("child(-2, 0)", x.child(-2, 0), BAD);
        due("child(6, 0)", x.child(6, 0), BAD);
        x.drag(3, 1, 0);
        due("child(0, 0)", x.child(0, 0), 3);
    }

    // ---- promise 24

    private static void numberText() {
        promise = 24;
        OutlineEditor x = outline(1, 1, 2, 2);
        due("numberText(3, 0)", x.numberText(3, 0), '2');
        due("numberText(3, 1)", x.numberText(3, 1), '.');
        due("numberText(3, 2)", x.numberText(3, 2), '2');
        due("numberText(3, 3)", x.numberText(3, 3), NONE);
        due("numberText(3, -1)", x.numberText(3, -1), BAD);
        due("numberText(4, 0)", x.numberText(4, 0), BAD);
        due("numberText(-1, 0)", x.numberText(-1, 0), BAD);
        due("number of 0 after a longer one", number(x, 0), "1");
    }

    private static void numberLeavesOut() {
        OutlineEditor x = outline(1, 2, 3, 4, 5, 6);
        x.setStart(1, -1);
        due("number of 5", number(x, 5), "1.1.1.1.1");
        due("number of 1", number(x, 1), "");
        x.setScheme(1, 5);
        due("number of 5", number(x, 5), "1.1.1.1");
        due("number of 0", number(x, 0), "");
        x.setScheme(6, 5);
        due("number of 5", number(x, 5), "");
        due("number of 4", number(x, 4), "1.1.1");
        due("value under the scheme 5", x.heading(5, 6), 1);

        OutlineEditor y = new OutlineEditor();
        for (int i = 0; i < 24; i++) {
            y.add(i, 1, 0);
        }
        for (int level = 2; level <= 6; level++) {
            y.add(22 + level, level, 0);
            y.setStart(22 + level, 38);
            y.setScheme(level, 3);
        }
        y.setStart(0, 60);
        y.setStart(23, 58);
        y.setScheme(1, 4);
        due("a long number", number(y, 28), "LVIII.xxxviii.xxxviii.xxxviii.xxxviii.xxxviii");

        OutlineEditor z = new OutlineEditor();
        for (int i = 0; i < 25; i++) {
            z.add(i, 1, 0);
        }
        for (int level = 2; level <= 6; level++) {
            z.add(23 + level, level, 0);
        }
        z.setStart(0, 60);
        due("the last number", number(z, 29), "84.1.1.1.1.1");
    }

    // ---- promise 25

    private static void write() {
        promise = 25;
        OutlineEditor x = new OutlineEditor();
        due("write(31)", x.write(31), BAD);
        due("write(127)", x.write(127), BAD);
        due("write(32)", x.write(32), 1);
        due("write(126)", x.write(126), 2);
        due("told(8)", x.told(8), 2);
        due("told(7), no change", x.told(7), 0);
        for (int i = 3; i <= 40; i++) {
            due("write('x')", x.write('x'), i);
        }
        due("write beyond 40", x.write('x'), FULL);
        due("write(0) beyond 40", x.write(0), BAD);
        due("told(8)", x.told(8), 40);
    }

    // ---- promise 26

    private static void wipe() {
        promise = 26;
        OutlineEditor x = outline(1);
        write(x, "11");
        due("find(0)", x.find(0), NONE);
        due("wipe()", x.wipe(), 2);
        due("told(8)", x.told(8), 0);
        due("wipe()", x.wipe(), 0);
        write(x, "1");
        due("find(0)", x.find(0), 0);
        due("told(7)", x.told(7), 1);
        for (int i = 0; i < 40; i++) {
            x.write('y');
        }
        due("wipe()", x.wipe(), 40);
        due("write", x.write('z'), 1);
    }

    // ---- promise 27

    private static void find() {
        promise = 27;
        OutlineEditor x = outline(1, 2, 1, 2, 1);
        due("find(0)", x.find(0), STATE);
        due("find(-1)", x.find(-1), BAD);
        write(x, "1.1");
        due("find(0)", x.find(0), 1);
        due("find(1)", x.find(1), NONE);
        due("find(-1)", x.find(-1), BAD);
        x.setStart(2, 1);
        x.fold(0, 1);
        x.setFilter(1);
        due("find(0), also if it is not shown", x.find(0), 1);
        due("find(1)", x.find(1), 3);
        due("find(2)", x.find(2), NONE);
        x.drag(2, 0, 0);
        due("find(0), in the order of the list", x.find(0), 3);
        x.setScheme(2, 1);
        due("find(0)", x.find(0), NONE);
        x.wipe();
        write(x, "1.A");
        due("find(0), small and capital letters", x.find(0), NONE);
        x.wipe();
        write(x, "1.");
        due("find(0), a beginning alone", x.find(0), NONE);
        x.wipe();
        write(x, "1.a ");
        due("find(0), a blank more", x.find(0), NONE);
        x.wipe();
        write(x, "1.a");
        due("find(0)", x.find(0), 3);
        x.setScheme(1, 5);
        x.setScheme(2, 5);
        due("find(0), numbers are empty", x.find(0), NONE);
    }

    // ---- promise 28

    private static void keep() {
        promise = 28;
        OutlineEditor x = outline(1, 2);
        due("keep(-1)", x.keep(-1), BAD);
        due("keep(2)", x.keep(2), BAD);
        due("keep(1)", x.keep(1), 2);
        due("told(7), no change", x.told(7), 2);
        due("back(0)", x.back(0), STATE);
        x.add(2, 3, 0);
        due("keep(0)", x.keep(0), 3);
        due("back(1)", x.back(1), 2);
        due("keep(0), replaced", x.keep(0), 2);
        x.add(2, 2, 0);
        x.add(3, 2, 0);
        due("back(0)", x.back(0), 2);
        due("list", list(x), "0:1 1:2");

        OutlineEditor y = new OutlineEditor();
        due("keep(0), empty", y.keep(0), 0);
        due("back(1)", y.back(1), STATE);
        due("back(0)", y.back(0), 0);
        due("told(7)", y.told(7), 1);
    }

    // ---- promise 29

    private static void back() {
        promise = 29;
        OutlineEditor x = outline(1, 2, 2, 1);
        x.setKind(1, 3);
        x.setTags(1, 5);
        x.fold(3, 1);
        x.setStart(2, 9);
        x.setScheme(2, 2);
        x.setRule(3, 8);
        x.setRule(-1, 13);
        x.setFilter(4);
        x.refer(3, 2);
        x.refer(0, 1);
        x.keep(0);
        x.remove(0, 0);
        x.setScheme(2, 0);
        x.setRule(3, 15);
        x.setRule(-1, 15);
        x.setFilter(0);
        x.fold(3, 0);
        write(x, "1.I");
        due("back(-1)", x.back(-1), BAD);
        due("back(2)", x.back(2), BAD);
        due("back(1)", x.back(1), STATE);
        due("back(0)", x.back(0), 4);
        due("told(7)", x.told(7), 8);
        due("list", list(x), "0:1 1:2 2:2 3:1");
        due("kind", x.heading(1, 2), 3);
        due("tags", x.heading(1, 3), 5);
        due("folded", x.heading(3, 4), 1);
        due("start", x.heading(2, 5), 9);
        due("filter", x.told(6), 4);
        due("references", x.told(1), 2);
        due("reference(0, 1)", x.reference(0, 1), 2);
        due("reference text", textOf(x, 0), "1.I");
        due("find(0)", x.find(0), 2);
        due("rule", x.setRule(3, 15), 8);
        due("rule", x.setRule(-1, 15), 13);
        x.undo();
        x.undo();
        due("undo of back", x.undo(), 5);
        due("list", list(x), "3:1");
        due("folded", x.heading(3, 4), 0);
        x.setTags(3, 7);
        due("the image stays", x.back(0), 4);
        due("tags", x.heading(3, 3), 0);
        x.setTags(3, 7);
        due("the image stays as it was", x.back(0), 4);
        due("tags", x.heading(3, 3), 0);
    }

    // ---- what holds for all promises

    /** BAD before STATE before FULL before DENIED before NONE. */
    private static void codeOrder() {
        promise = 0;
        OutlineEditor x = outline(1, 2);
        x.setRule(-1, 0);
        x.setRule(0, 0);
        due("add, BAD before STATE", x.add(0, 2, 4), BAD);
        due("add, STATE before DENIED", x.add(0, 2, 0), STATE);
        due("promote, STATE before DENIED", x.promote(0), STATE);
        due("demote, STATE before DENIED", x.demote(1), STATE);
        due("drag, BAD before STATE", x.drag(0, 1, 4), BAD);
        due("drag, STATE before DENIED", x.drag(0, 1, 0), STATE);
        due("remove, BAD before DENIED", x.remove(0, 2), BAD);
        due("setKind, BAD before DENIED", x.setKind(0, 4), BAD);
        due("find, BAD before STATE", x.find(-5), BAD);
        due("back, BAD before STATE", x.back(5), BAD);
    }

    private static void errorsChangeNothing() {
        OutlineEditor x = outline(1, 2, 3, 1);
        x.setKind(2, 1);
        x.setRule(-1, 1);
        x.setRule(0, 0);
        int changes = x.told(7);
        due("remove(1, 1)", x.remove(1, 1), DENIED);
        due("promote(2)", x.promote(2), DENIED);
        due("demote(3)", x.demote(3), DENIED);
        due("drag(2, 3, 3)", x.drag(2, 3, 3), DENIED);
        due("drag(2, 2, 3)", x.drag(2, 2, 3), STATE);
        due("setKind(1, 0)", x.setKind(1, 0), DENIED);
        due("add(4, 2, 0)", x.add(4, 2, 0), DENIED);
        due("back(0)", x.back(0), STATE);
        due("forget(0)", x.forget(0), BAD);
        due("told(7)", x.told(7), changes);
        due("list", list(x), "0:1 1:2 2:3 3:1");
    }

    private static void extremeArguments() {
        int[] odd = {Integer.MIN_VALUE, Integer.MIN_VALUE + 1, -100, -10, -9, 100, Integer.MAX_VALUE - 1, Integer.MAX_VALUE};
        OutlineEditor x = outline(1, 2);
        x.refer(0, 1);
        for (int n : odd) {
            due("add at " + n, x.add(n, 1, 0), BAD);
            due("add level " + n, x.add(2, n, 0), BAD);
            due("add kind " + n, x.add(2, 1, n), BAD);
            due("remove " + n, x.remove(n, 0), BAD);
            due("promote " + n, x.promote(n), BAD);
            due("demote " + n, x.demote(n), BAD);
            due("drag " + n, x.drag(n, 0, 0), BAD);
            due("drag to " + n, x.drag(0, n, 0), BAD);
            due("drag where " + n, x.drag(1, 0, n), BAD);
            due("setKind " + n, x.setKind(n, 0), BAD);
            due("setTags " + n, x.setTags(n, 0), BAD);
            due("setTags to " + n, x.setTags(0, n), BAD);
            due("fold " + n, x.fold(n, 0), BAD);
            due("setStart " + n, x.setStart(n, 0), BAD);
            due("setStart to " + n, x.setStart(0, n), BAD);
            due("setScheme " + n, x.setScheme(n, 0), BAD);
            due("setRule " + n, x.setRule(n, 0), BAD);
            due("setFilter " + n, x.setFilter(n), BAD);
            due("refer " + n, x.refer(n, 0), BAD);
            due("refer to " + n, x.refer(0, n), BAD);
            due("forget " + n, x.forget(n), BAD);
            due("reference " + n, x.reference(n, 0), BAD);
            due("referenceText " + n, x.referenceText(n, 0), BAD);
            due("referenceText at " + n, x.referenceText(0, n), n < 0 ? BAD : NONE);
            due("told " + n, x.told(n), BAD);
            due("headingAt " + n, x.headingAt(n), n < 0 ? BAD : NONE);
            due("shownAt " + n, x.shownAt(n), n < 0 ? BAD : NONE);
            due("heading " + n, x.heading(n, 0), BAD);
            due("heading what " + n, x.heading(0, n), BAD);
            due("child of " + n, x.child(n, 0), BAD);
            due("child at " + n, x.child(0, n), n < 0 ? BAD : NONE);
            due("numberText " + n, x.numberText(n, 0), BAD);
            due("numberText at " + n, x.numberText(0, n), n < 0 ? BAD : NONE);
            due("keep " + n, x.keep(n), BAD);
            due("back " + n, x.back(n), BAD);
            due("find " + n, x.find(n), n < 0 ? BAD : STATE);
            if (n != 100) {
                due("write " + n, x.write(n), BAD);
            }
        }
        due("told(7)", x.told(7), 3);
    }

    /** Nothing is looked for behind the last of 30 headings. */
    private static void fullList() {
        OutlineEditor x = new OutlineEditor();
        for (int i = 0; i < 30; i++) {
            due("add", x.add(i, 1 + i % 6, 3), i);
        }
        due("setTags(30, 0)", x.setTags(30, 0), BAD);
        due("fold(30, 0)", x.fold(30, 0), BAD);
        due("setStart(30, 0)", x.setStart(30, 0), BAD);
        due("refer(30, 0)", x.refer(30, 0), BAD);
        due("refer(0, 30)", x.refer(0, 30), BAD);
        due("heading(30, 0)", x.heading(30, 0), BAD);
        due("promote(30)", x.promote(30), BAD);
        due("headingAt(29)", x.headingAt(29), 29);
        due("headingAt(30)", x.headingAt(30), NONE);
        due("shownAt(30)", x.shownAt(30), NONE);
        x.setFilter(16);
        due("shownAt(0)", x.shownAt(0), NONE);
        x.setTags(29, 16);
        due("shown", shown(x), "24 25 26 27 28 29");
        due("shownAt(6)", x.shownAt(6), NONE);
        due("child(29, 0)", x.child(29, 0), NONE);
        due("child(24, 0)", x.child(24, 0), 25);
        due("heading(24, 9)", x.heading(24, 9), 6);
        due("heading(28, 8)", x.heading(28, 8), 1);
        due("setKind(29, 0)", x.setKind(29, 0), 3);
        due("promote(29)", x.promote(29), 5);
        due("demote(29)", x.demote(29), 6);
        due("drag(24, 0, 0)", x.drag(24, 0, 0), 0);
        due("drag(24, 18, 1)", x.drag(24, 18, 1), 24);
        due("number of 29", number(x, 29), "5.1.1.1.1.1");
        write(x, "5.1.1.1.1.1");
        due("find(0)", x.find(0), 29);
        due("find(1)", x.find(1), NONE);
        due("told(5)", x.told(5), 6);
        due("told(9)", x.told(9), 0);
        due("remove(29, 1)", x.remove(29, 1), 1);
        due("remove(0, 0)", x.remove(0, 0), 6);
        due("told(0)", x.told(0), 23);
    }
}
