import java.util.ArrayList;
import java.util.Arrays;
import java.util.List;

/**
 * Every small outline, and every call on it that moves, adds or removes headings. What is due is told by a tree that
 * knows no list and no levels: a heading hangs under its parent, and each call takes headings off and hangs them up
 * elsewhere. The list and the levels of the document are read from the tree at the end.
 */
public final class TreeTest {
    private static final int STATE = -2, DENIED = -4, NONE = -9;
    private static final int GREATEST_LEVEL = 6;
    private static final int ALL_KINDS = 15;
    private static final int[] FREE = {ALL_KINDS, ALL_KINDS, ALL_KINDS, ALL_KINDS, ALL_KINDS};
    private static final int START = 26;

    private static int wrong = 0;
    private static int cases = 0;

    // ---- the tree

    static final class Node {
        final int id;
        int kind;
        int start;
        int folded;
        int tags;
        Node parent;
        final List<Node> below = new ArrayList<>();

        Node(int id, int kind) {
            this.id = id;
            this.kind = kind;
        }

        int depth() {
            return parent == null ? 0 : parent.depth() + 1;
        }

        /** How many levels there are below it. */
        int height() {
            int most = 0;
            for (Node each : below) {
                most = Math.max(most, each.height() + 1);
            }
            return most;
        }

        int rank() {
            return parent.below.indexOf(this);
        }

        Node onWayAt(int depth) {
            return depth() == depth ? this : parent.onWayAt(depth);
        }

        void hang(Node child, int rank) {
            below.add(rank, child);
            child.parent = this;
        }

        void takeOff() {
            parent.below.remove(this);
            parent = null;
        }

        boolean isUnder(Node other) {
            return this == other || parent != null && parent.isUnder(other);
        }

        void collect(List<Node> into) {
            for (Node each : below) {
                into.add(each);
                each.collect(into);
            }
        }
    }

    /** The root is above the headings with level 1; its kind is -1, as in setRule(). */
    static final class Tree {
        final Node root = new Node(-1, -1);
        final int[] rules;

        Tree(int[] levels, int[] kinds, int[] rules) {
            this.rules = rules;
            Node last = root;
            for (int i = 0; i < levels.length; i++) {
                Node parent = last.onWayAt(levels[i] - 1);
                last = new Node(i, kinds[i]);
                parent.hang(last, parent.below.size());
            }
        }

        List<Node> list() {
            List<Node> all = new ArrayList<>();
            root.collect(all);
            return all;
        }

        Node node(int id) {
            for (Node each : list()) {
                if (each.id == id) {
                    return each;
                }
            }
            throw new IllegalStateException("no heading " + id);
        }

        boolean allows(int parentKind, List<Node> children) {
            for (Node each : children) {
                if ((rules[parentKind + 1] & 1 << each.kind) == 0) {
                    return false;
                }
            }
            return true;
        }

        int add(int at, int level, int kind) {
            List<Node> list = list();
            Node before = at == 0 ? root : list.get(at - 1);
            if (level > before.depth() + 1 || at < list.size() && list.get(at).depth() > level + 1) {
                return STATE;
            }
            Node added = new Node(list.size(), kind);
            Node parent = before.onWayAt(level - 1);
            int rank = 0;
            List<Node> taken = new ArrayList<>();
            if (before.depth() >= level) {
                Node elder = before.onWayAt(level);
                rank = elder.rank() + 1;
                int first = before == elder ? 0 : before.onWayAt(level + 1).rank() + 1;
                taken.addAll(elder.below.subList(first, elder.below.size()));
            }
            if (!allows(parent.kind, List.of(added)) || !allows(kind, taken)) {
                return DENIED;
            }
            parent.hang(added, rank);
            hangAll(taken, added, 0);
            return added.id;
        }

        private static void hangAll(List<Node> nodes, Node under, int rank) {
            int next = rank;
            for (Node each : List.copyOf(nodes)) {
                each.takeOff();
                under.hang(each, next);
                next++;
            }
        }

        int remove(Node h, int how) {
            if (how == 1) {
                if (!allows(h.parent.kind, h.below)) {
                    return DENIED;
                }
                hangAll(h.below, h.parent, h.rank() + 1);
                h.takeOff();
                return 1;
            }
            int size = size(h);
            h.takeOff();
            return size;
        }

        int promote(Node h) {
            Node parent = h.parent;
            if (parent == root) {
                return STATE;
            }
            List<Node> younger = parent.below.subList(h.rank() + 1, parent.below.size());
            if (!allows(parent.parent.kind, List.of(h)) || !allows(h.kind, younger)) {
                return DENIED;
            }
            hangAll(younger, h, h.below.size());
            h.takeOff();
            parent.parent.hang(h, parent.rank() + 1);
            return h.depth();
        }

        int demote(Node h) {
            if (h.rank() == 0 || h.depth() + h.height() + 1 > GREATEST_LEVEL) {
                return STATE;
            }
            Node elder = h.parent.below.get(h.rank() - 1);
            if (!allows(elder.kind, List.of(h))) {
                return DENIED;
            }
            h.takeOff();
            elder.hang(h, elder.below.size());
            return h.depth();
        }

        int drag(Node h, Node target, int where) {
            Node parent = where < 2 ? target.parent : target;
            if (target.isUnder(h) || parent.depth() + 1 + h.height() > GREATEST_LEVEL) {
                return STATE;
            }
            if (!allows(parent.kind, List.of(h))) {
                return DENIED;
            }
            h.takeOff();
            int[] ranks = {where < 2 ? target.rank() : 0, where < 2 ? target.rank() + 1 : 0, 0, target.below.size()};
            parent.hang(h, ranks[where]);
            return list().indexOf(h);
        }

        int setKind(Node h, int kind) {
            int previous = h.kind;
            h.kind = kind;
            if (!allows(h.parent.kind, List.of(h)) || !allows(kind, h.below)) {
                h.kind = previous;
                return DENIED;
            }
            return previous;
        }

        int size(Node h) {
            List<Node> part = new ArrayList<>();
            h.collect(part);
            return part.size() + 1;
        }

        String told() {
            StringBuilder out = new StringBuilder();
            int misplaced = 0;
            for (Node each : list()) {
                misplaced += allows(each.parent.kind, List.of(each)) ? 0 : 1;
                out.append(' ').append(each.id).append(" level ").append(each.depth()).append(" kind ").append(each.kind)
                    .append(" in ").append(each.parent == root ? NONE : each.parent.id).append(" rank ").append(each.rank())
                    .append(" children ").append(each.below.size()).append(" part ").append(size(each)).append(';');
            }
            return out.append(" misplaced ").append(misplaced).toString();
        }
    }

    // ---- a call of each method that moves headings

    static final class Step {
        final String name;
        final int a;
        final int b;
        final int c;

        Step(String name, int a, int b, int c) {
            this.name = name;
            this.a = a;
            this.b = b;
            this.c = c;
        }

        int on(OutlineEditor x) {
            switch (name) {
                case "add": return x.add(a, b, c);
                case "remove": return x.remove(a, b);
                case "promote": return x.promote(a);
                case "demote": return x.demote(a);
                case "drag": return x.drag(a, b, c);
                default: return x.setKind(a, b);
            }
        }

        int on(Tree t) {
            switch (name) {
                case "add": return t.add(a, b, c);
                case "remove": return t.remove(t.node(a), b);
                case "promote": return t.promote(t.node(a));
                case "demote": return t.demote(t.node(a));
                case "drag": return t.drag(t.node(a), t.node(b), c);
                default: return t.setKind(t.node(a), b);
            }
        }

        public String toString() {
            return name + "(" + a + ", " + b + ", " + c + ")";
        }
    }

    /** Every call on an outline of so many headings, with so many kinds. */
    static List<Step> steps(int headings, int kinds) {
        List<Step> all = new ArrayList<>();
        for (int at = 0; at <= headings; at++) {
            for (int level = 1; level <= GREATEST_LEVEL; level++) {
                for (int kind = 0; kind < kinds; kind++) {
                    all.add(new Step("add", at, level, kind));
                }
            }
        }
        for (int h = 0; h < headings; h++) {
            all.add(new Step("remove", h, 0, 0));
            all.add(new Step("remove", h, 1, 0));
            all.add(new Step("promote", h, 0, 0));
            all.add(new Step("demote", h, 0, 0));
            for (int kind = 0; kind < kinds; kind++) {
                all.add(new Step("setKind", h, kind, 0));
            }
            for (int target = 0; target < headings; target++) {
                for (int where = 0; where <= 3; where++) {
                    all.add(new Step("drag", h, target, where));
                }
            }
        }
        return all;
    }

    // ---- the editor

    static OutlineEditor editor(int[] levels, int[] kinds, int[] rules) {
        OutlineEditor x = new OutlineEditor();
        for (int i = 0; i < levels.length; i++) {
            x.add(i, levels[i], kinds[i]);
        }
        for (int kind = -1; kind <= 3; kind++) {
            if (rules[kind + 1] != ALL_KINDS) {
                x.setRule(kind, rules[kind + 1]);
            }
        }
        return x;
    }

    static int rankOf(OutlineEditor x, int h) {
        int parent = x.heading(h, 7);
        for (int k = 0; k < 30; k++) {
            if (x.child(parent == NONE ? -1 : parent, k) == h) {
                return k;
            }
        }
        return NONE;
    }

    static String told(OutlineEditor x) {
        StringBuilder out = new StringBuilder();
        for (int place = 0; place < x.told(0); place++) {
            int h = x.headingAt(place);
            out.append(' ').append(h).append(" level ").append(x.heading(h, 1)).append(" kind ").append(x.heading(h, 2))
                .append(" in ").append(x.heading(h, 7)).append(" rank ").append(rankOf(x, h)).append(" children ")
                .append(x.heading(h, 8)).append(" part ").append(x.heading(h, 9)).append(';');
        }
        return out.append(" misplaced ").append(x.told(9)).toString();
    }

    static void due(Object what, Object got, Object want) {
        if (!got.equals(want)) {
            wrong++;
            if (wrong <= 20) {
                System.out.println(what + " answered " + got + ", due is " + want);
            }
        }
    }

    // ---- outlines

    /** All lists of levels that begin so and have so many more, by the rule about levels. */
    static List<int[]> levelLists(int[] begin, int more) {
        List<int[]> all = new ArrayList<>();
        if (more == 0) {
            all.add(begin);
            return all;
        }
        int last = begin.length == 0 ? 0 : begin[begin.length - 1];
        for (int level = 1; level <= Math.min(last + 1, GREATEST_LEVEL); level++) {
            int[] next = Arrays.copyOf(begin, begin.length + 1);
            next[begin.length] = level;
            all.addAll(levelLists(next, more - 1));
        }
        return all;
    }

    /** The digits of a number, in as many places as there are; with them all combinations are counted through. */
    static int[] digits(int number, int base, int places) {
        int[] all = new int[places];
        int rest = number;
        for (int i = 0; i < places; i++) {
            all[i] = rest % base;
            rest /= base;
        }
        return all;
    }

    static int power(int base, int exponent) {
        return exponent == 0 ? 1 : base * power(base, exponent - 1);
    }

    static String words(int[] levels, int[] kinds, int[] rules, Object call) {
        return "levels " + Arrays.toString(levels) + " kinds " + Arrays.toString(kinds) + " rules "
            + Arrays.toString(rules) + ": " + call;
    }

    // ---- places and rules

    static void tryAll(int[] levels, int[] kinds, int[] rules, List<Step> steps) {
        String before = new Tree(levels, kinds, rules).told();
        for (Step step : steps) {
            cases++;
            OutlineEditor x = editor(levels, kinds, rules);
            Tree t = new Tree(levels, kinds, rules);
            int changes = x.told(7);
            int answer = step.on(x);
            int want = step.on(t);
            int changesDue = Math.min(8, changes + (want < 0 ? 0 : 1));
            String after = told(x);
            String afterDue = t.told();
            int changesThen = x.told(7);
            if (want >= 0) {
                x.undo();
            }
            String atLast = told(x);
            // Asked first, as the words for so many cases would take longer than the cases.
            if (answer != want || changesThen != changesDue || !after.equals(afterDue) || !atLast.equals(before)) {
                String words = words(levels, kinds, rules, step);
                due(words, answer, want);
                due(words + ", told(7)", changesThen, changesDue);
                due(words + ", the outline then,", after, afterDue);
                due(words + ", the outline after undo(),", atLast, before);
            }
        }
    }

    /** Two kinds, and every rule about them. */
    static void smallOutlinesUnderRules(int headings) {
        List<Step> steps = steps(headings, 2);
        for (int[] levels : levelLists(new int[0], headings)) {
            for (int k = 0; k < power(2, headings); k++) {
                for (int r = 0; r < 64; r++) {
                    int[] rules = {r & 3, r >> 2 & 3, r >> 4, ALL_KINDS, ALL_KINDS};
                    tryAll(levels, digits(k, 2, headings), rules, steps);
                }
            }
        }
    }

    static void deepOutlines(int more) {
        int[] begin = {1, 2, 3, 4};
        List<Step> steps = steps(begin.length + more, 1);
        for (int[] levels : levelLists(begin, more)) {
            tryAll(levels, new int[levels.length], FREE, steps);
        }
    }

    // ---- references

    /** A reference from each heading to each, then one call: what is left of them, and what they say. */
    static void references(int headings) {
        for (int[] levels : levelLists(new int[0], headings)) {
            for (Step step : steps(headings, 1)) {
                cases++;
                OutlineEditor x = editor(levels, new int[headings], FREE);
                for (int k = 0; k < headings * headings; k++) {
                    x.refer(k / headings, k % headings);
                }
                Tree t = new Tree(levels, new int[headings], FREE);
                step.on(x);
                step.on(t);
                due(words(levels, new int[headings], FREE, step) + ", the references then,", referencesOf(x),
                    referencesDue(t, headings));
            }
        }
    }

    static String referencesOf(OutlineEditor x) {
        StringBuilder out = new StringBuilder();
        for (int k = 0; k < x.told(1); k++) {
            out.append(" | ").append(x.reference(k, 0)).append(' ').append(x.reference(k, 1)).append(' ')
                .append(x.reference(k, 2)).append(' ').append(x.reference(k, 4)).append(' ');
            for (int i = 0; x.referenceText(k, i) != NONE; i++) {
                out.append((char) x.referenceText(k, i));
            }
        }
        return out.append(" broken ").append(x.told(2)).toString();
    }

    static String referencesDue(Tree t, int headings) {
        List<Node> list = t.list();
        int broken = 0;
        StringBuilder out = new StringBuilder();
        for (int k = 0; k < headings * headings; k++) {
            Node source = among(list, k / headings);
            Node target = among(list, k % headings);
            if (source == null) {
                continue;
            }
            out.append(" | ").append(source.id).append(' ');
            if (target == null) {
                broken++;
                out.append(NONE).append(' ').append(NONE).append(" 1 ?");
            } else {
                int order = Integer.signum(list.indexOf(target) - list.indexOf(source));
                String number = number(target, new int[GREATEST_LEVEL]);
                out.append(target.id).append(' ').append(order < 0 ? 1 : order > 0 ? 2 : 0).append(' ').append(number.length())
                    .append(' ').append(number);
            }
        }
        return out.append(" broken ").append(broken).toString();
    }

    static Node among(List<Node> list, int id) {
        for (Node each : list) {
            if (each.id == id) {
                return each;
            }
        }
        return null;
    }

    // ---- numbers

    static int value(Node h) {
        if (h.start != 0) {
            return Math.max(h.start, 0);
        }
        for (int rank = h.rank() - 1; rank >= 0; rank--) {
            Node elder = h.parent.below.get(rank);
            if (elder.start != -1) {
                return value(elder) + 1;
            }
        }
        return 1;
    }

    /** The values 1 to 5 and, from the start 26 on, 26 to 30: no others come from numbers() with up to 5 headings. */
    static final String[] LETTERS = {"a", "b", "c", "d", "e", "z", "aa", "ab", "ac", "ad"};
    static final String[] ROMAN = {"i", "ii", "iii", "iv", "v", "xxvi", "xxvii", "xxviii", "xxix", "xxx"};

    static String sign(int value, int scheme) {
        String letters = LETTERS[value < START ? value - 1 : value - START + 5];
        String roman = ROMAN[value < START ? value - 1 : value - START + 5];
        String[] all = {"" + value, letters, letters.toUpperCase(), roman, roman.toUpperCase(), ""};
        return all[scheme];
    }

    static boolean isLeftOut(Node h, int[] schemes) {
        return h.start == -1 || schemes[h.depth() - 1] == 5;
    }

    static String number(Node h, int[] schemes) {
        return isLeftOut(h, schemes) ? "" : withWay(h, schemes);
    }

    private static String withWay(Node h, int[] schemes) {
        String way = h.parent.id == -1 ? "" : withWay(h.parent, schemes);
        if (isLeftOut(h, schemes)) {
            return way;
        }
        return way + (way.isEmpty() ? "" : ".") + sign(value(h), schemes[h.depth() - 1]);
    }

    /** Every heading unnumbered, without a start, or with the start 26, under all schemes of the first levels. */
    static void numbers(int headings, int schemeLevels) {
        int[] starts = {0, -1, START};
        for (int[] levels : levelLists(new int[0], headings)) {
            for (int s = 0; s < power(3, headings); s++) {
                for (int n = 0; n < power(6, schemeLevels); n++) {
                    cases++;
                    OutlineEditor x = editor(levels, new int[headings], FREE);
                    Tree t = new Tree(levels, new int[headings], FREE);
                    int[] picked = digits(s, 3, headings);
                    for (int h = 0; h < headings; h++) {
                        x.setStart(h, starts[picked[h]]);
                        t.node(h).start = starts[picked[h]];
                    }
                    int[] schemes = Arrays.copyOf(digits(n, 6, schemeLevels), GREATEST_LEVEL);
                    for (int level = 1; level <= schemeLevels; level++) {
                        x.setScheme(level, schemes[level - 1]);
                    }
                    compareNumbers(x, t, schemes);
                }
            }
        }
    }

    static void compareNumbers(OutlineEditor x, Tree t, int[] schemes) {
        for (Node h : t.list()) {
            StringBuilder got = new StringBuilder();
            for (int i = 0; x.numberText(h.id, i) != NONE; i++) {
                got.append((char) x.numberText(h.id, i));
            }
            String want = number(h, schemes);
            if (!want.contentEquals(got) || x.heading(h.id, 12) != want.length() || x.heading(h.id, 6) != value(h)) {
                String words = t.told() + " schemes " + Arrays.toString(schemes) + ": ";
                due(words + "the number of " + h.id, got.toString(), want);
                due(words + "its length", x.heading(h.id, 12), want.length());
                due(words + "its value", x.heading(h.id, 6), value(h));
            }
        }
    }

    // ---- folding and filters

    /** Every heading folded or not, with the tag 1 or the tag 2, under no filter, one tag, both, or one that none has. */
    static void shown(int headings) {
        for (int[] levels : levelLists(new int[0], headings)) {
            for (int n = 0; n < power(4, headings); n++) {
                for (int filter = 0; filter <= 8; filter += 2) {
                    cases++;
                    OutlineEditor x = editor(levels, new int[headings], FREE);
                    Tree t = new Tree(levels, new int[headings], FREE);
                    int[] picked = digits(n, 4, headings);
                    for (int h = 0; h < headings; h++) {
                        t.node(h).folded = picked[h] & 1;
                        t.node(h).tags = picked[h] < 2 ? 2 : 4;
                        x.fold(h, picked[h] & 1);
                        x.setTags(h, picked[h] < 2 ? 2 : 4);
                    }
                    x.setFilter(filter);
                    compareShown(x, t, filter);
                }
            }
        }
    }

    static boolean isOpen(Node h) {
        return h.parent == null || h.parent.folded == 0 && isOpen(h.parent);
    }

    static boolean holdsMatch(Node h, int filter) {
        if (filter == 0 || (h.tags & filter) != 0) {
            return true;
        }
        for (Node each : h.below) {
            if (holdsMatch(each, filter)) {
                return true;
            }
        }
        return false;
    }

    static void compareShown(OutlineEditor x, Tree t, int filter) {
        int open = 0;
        List<Integer> want = new ArrayList<>();
        String words = t.told() + " filter " + filter + ": ";
        for (Node h : t.list()) {
            open += isOpen(h) ? 1 : 0;
            boolean isShown = isOpen(h) && holdsMatch(h, filter);
            if (isShown) {
                want.add(h.id);
            }
            due(words + "heading(" + h.id + ", 10)", x.heading(h.id, 10), isOpen(h) ? 1 : 0);
            due(words + "heading(" + h.id + ", 11)", x.heading(h.id, 11), isShown ? 1 : 0);
        }
        List<Integer> got = new ArrayList<>();
        for (int k = 0; x.shownAt(k) != NONE; k++) {
            got.add(x.shownAt(k));
        }
        due(words + "shownAt", got, want);
        due(words + "told(3)", x.told(3), open);
        due(words + "told(4)", x.told(4), want.size());
    }

    public static void main(String[] args) {
        // A greater number tries larger outlines; what .ci/run tries is over in some seconds.
        int size = args.length > 0 ? Integer.parseInt(args[0]) : 4;
        for (int headings = 0; headings <= size; headings++) {
            smallOutlinesUnderRules(headings);
            deepOutlines(headings);
            numbers(headings, Math.min(headings, 3));
            shown(headings);
        }
        references(2);
        references(3);
        System.out.println(cases + " small outlines: " + (wrong == 0 ? "all as due" : wrong + " answers not as due"));
        if (wrong != 0) {
            System.exit(1);
        }
    }
}
