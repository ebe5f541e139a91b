import java.util.ArrayDeque;
import java.util.ArrayList;
import java.util.Arrays;
import java.util.Deque;
import java.util.HashMap;
import java.util.List;
import java.util.Map;
import java.util.Random;
import java.util.stream.Collectors;

/**
 * Long runs of mixed calls, each answer compared with that of a second program, which is written from the
 * document anew and in another way: a change makes a new list first, and what belongs to what is read from that.
 */
public final class ModelTest {
    private static final int BAD = -1, STATE = -2, FULL = -3, DENIED = -4, NONE = -9;
    private static final int RUNS = 1500;
    /** What an object answers beyond these is free. */
    private static final int CALLS = 512;

    record Item(int id, int level, int kind, int tags, int folded, int start) {
        Item deeper(int by) { return new Item(id, level + by, kind, tags, folded, start); }
    }

    /** The target of a broken reference is NONE. */
    record Link(int source, int target) { }

    record State(List<Item> items, List<Integer> rules, List<Integer> schemes, List<Link> links, int filter) {
        State items(List<Item> next) { return new State(List.copyOf(next), rules, schemes, links, filter); }
        State rules(List<Integer> next) { return new State(items, List.copyOf(next), schemes, links, filter); }
        State schemes(List<Integer> next) { return new State(items, rules, List.copyOf(next), links, filter); }
        State links(List<Link> next) { return new State(items, rules, schemes, List.copyOf(next), filter); }
        State filter(int next) { return new State(items, rules, schemes, links, next); }
    }

    /** What belongs to what in one list; the parent of a heading with level 1 is -1. */
    static final class Tree {
        final Map<Integer, Item> item = new HashMap<>();
        final Map<Integer, Integer> parent = new HashMap<>();
        final Map<Integer, List<Integer>> children = new HashMap<>();

        Tree(List<Item> items) {
            Deque<Item> way = new ArrayDeque<>();
            children.put(-1, new ArrayList<>());
            for (Item each : items) {
                while (!way.isEmpty() && way.peek().level() >= each.level()) {
                    way.pop();
                }
                int above = way.isEmpty() ? -1 : way.peek().id();
                item.put(each.id(), each);
                parent.put(each.id(), above);
                children.get(above).add(each.id());
                children.put(each.id(), new ArrayList<>());
                way.push(each);
            }
        }

        List<Integer> part(int h) {
            List<Integer> all = new ArrayList<>(List.of(h));
            for (int c : children.get(h)) {
                all.addAll(part(c));
            }
            return all;
        }

        List<Integer> above(int h) {
            List<Integer> all = new ArrayList<>();
            for (int p = parent.get(h); p != -1; p = parent.get(p)) {
                all.add(0, p);
            }
            return all;
        }

        boolean fits(int h, List<Integer> rules) {
            int p = parent.get(h);
            int set = p == -1 ? rules.get(4) : rules.get(item.get(p).kind());
            return (set & (1 << item.get(h).kind())) != 0;
        }

        int value(int h) {
            int value = 0;
            for (int s : children.get(parent.get(h))) {
                int start = item.get(s).start();
                if (start == -1) {
                    if (s == h) {
                        return 0;
                    }
                    continue;
                }
                value = start > 0 ? start : value + 1;
                if (s == h) {
                    return value;
                }
            }
            throw new IllegalStateException();
        }
    }

    static final class Model {
        State now = new State(List.of(), List.of(15, 15, 15, 15, 15), List.of(0, 0, 0, 0, 0, 0), List.of(), 0);
        final Deque<State> history = new ArrayDeque<>();
        final State[] images = new State[2];
        String text = "";

        Tree tree() { return new Tree(now.items()); }

        boolean has(int h) { return now.items().stream().anyMatch(i -> i.id() == h); }

        int place(int h) {
            for (int p = 0; p < now.items().size(); p++) {
                if (now.items().get(p).id() == h) {
                    return p;
                }
            }
            return -1;
        }

        static boolean valid(List<Item> items) {
            int before = 0;
            for (Item i : items) {
                if (i.level() > before + 1) {
                    return false;
                }
                before = i.level();
            }
            return true;
        }

        int change(State next, int answer) {
            history.push(now);
            while (history.size() > 8) {
                history.removeLast();
            }
            now = next;
            return answer;
        }

        int add(int at, int level, int kind) {
            if (at < 0 || at > now.items().size() || level < 1 || level > 6 || kind < 0 || kind > 3) return BAD;
            int id = 0;
            while (has(id)) {
                id++;
            }
            List<Item> next = new ArrayList<>(now.items());
            next.add(at, new Item(id, level, kind, 0, 0, 0));
            if (!valid(next)) return STATE;
            if (next.size() > 30) return FULL;
            Tree t = new Tree(next);
            if (!t.fits(id, now.rules())) return DENIED;
            for (int c : t.children.get(id)) {
                if (!t.fits(c, now.rules())) return DENIED;
            }
            return change(now.items(next), id);
        }

        int remove(int h, int how) {
            if (!has(h) || how < 0 || how > 1) return BAD;
            Tree old = tree();
            List<Integer> part = old.part(h);
            List<Integer> gone = how == 0 ? part : List.of(h);
            List<Item> next = new ArrayList<>();
            for (Item i : now.items()) {
                if (!gone.contains(i.id())) {
                    next.add(part.contains(i.id()) ? i.deeper(-1) : i);
                }
            }
            Tree t = new Tree(next);
            if (how == 1) {
                for (int c : old.children.get(h)) {
                    if (!t.fits(c, now.rules())) return DENIED;
                }
            }
            List<Link> links = new ArrayList<>();
            for (Link l : now.links()) {
                if (!gone.contains(l.source())) {
                    links.add(gone.contains(l.target()) ? new Link(l.source(), NONE) : l);
                }
            }
            return change(now.items(next).links(links), gone.size());
        }

        List<Item> shifted(int h, int by) {
            List<Integer> part = tree().part(h);
            return now.items().stream().map(i -> part.contains(i.id()) ? i.deeper(by) : i).collect(Collectors.toList());
        }

        int promote(int h) {
            if (!has(h)) return BAD;
            Tree old = tree();
            if (old.item.get(h).level() == 1) return STATE;
            List<Item> next = shifted(h, -1);
            Tree t = new Tree(next);
            if (!t.fits(h, now.rules())) return DENIED;
            for (int c : t.children.get(h)) {
                if (!old.part(h).contains(c) && !t.fits(c, now.rules())) return DENIED;
            }
            return change(now.items(next), t.item.get(h).level());
        }

        int demote(int h) {
            if (!has(h)) return BAD;
            Tree old = tree();
            if (old.children.get(old.parent.get(h)).get(0) == h) return STATE;
            List<Item> next = shifted(h, 1);
            if (next.stream().anyMatch(i -> i.level() > 6)) return STATE;
            Tree t = new Tree(next);
            if (!t.fits(h, now.rules())) return DENIED;
            return change(now.items(next), t.item.get(h).level());
        }

        int drag(int h, int target, int where) {
            if (!has(h) || !has(target) || where < 0 || where > 3) return BAD;
            Tree old = tree();
            List<Integer> part = old.part(h);
            if (part.contains(target)) return STATE;
            int by = old.item.get(target).level() + (where < 2 ? 0 : 1) - old.item.get(h).level();
            List<Item> moved = new ArrayList<>();
            List<Item> next = new ArrayList<>();
            for (Item i : now.items()) {
                if (part.contains(i.id())) {
                    moved.add(i.deeper(by));
                } else {
                    next.add(i);
                }
            }
            if (moved.stream().anyMatch(i -> i.level() > 6)) return STATE;
            List<Integer> rest = next.stream().map(Item::id).collect(Collectors.toList());
            int goal = rest.indexOf(target);
            int size = new Tree(next).part(target).size();
            int to = where == 0 ? goal : where == 2 ? goal + 1 : goal + size;
            next.addAll(to, moved);
            if (!valid(next)) throw new IllegalStateException();
            if (!new Tree(next).fits(h, now.rules())) return DENIED;
            return change(now.items(next), to);
        }

        int replace(Item with, int answer) {
            List<Item> next = new ArrayList<>(now.items());
            next.set(place(with.id()), with);
            return change(now.items(next), answer);
        }

        int setKind(int h, int kind) {
            if (!has(h) || kind < 0 || kind > 3) return BAD;
            Item i = now.items().get(place(h));
            List<Item> next = new ArrayList<>(now.items());
            next.set(place(h), new Item(h, i.level(), kind, i.tags(), i.folded(), i.start()));
            Tree t = new Tree(next);
            if (!t.fits(h, now.rules())) return DENIED;
            for (int c : t.children.get(h)) {
                if (!t.fits(c, now.rules())) return DENIED;
            }
            return change(now.items(next), i.kind());
        }

        int setTags(int h, int tags) {
            if (!has(h) || tags < 0 || tags > 31) return BAD;
            Item i = now.items().get(place(h));
            return replace(new Item(h, i.level(), i.kind(), tags, i.folded(), i.start()), i.tags());
        }

        int fold(int h, int on) {
            if (!has(h) || on < 0 || on > 1) return BAD;
            Item i = now.items().get(place(h));
            return replace(new Item(h, i.level(), i.kind(), i.tags(), on, i.start()), i.folded());
        }

        int setStart(int h, int start) {
            if (!has(h) || start < -1 || start > 60) return BAD;
            Item i = now.items().get(place(h));
            return replace(new Item(h, i.level(), i.kind(), i.tags(), i.folded(), start), i.start());
        }

        int setScheme(int level, int scheme) {
            if (level < 1 || level > 6 || scheme < 0 || scheme > 5) return BAD;
            List<Integer> next = new ArrayList<>(now.schemes());
            int previous = next.set(level - 1, scheme);
            return change(now.schemes(next), previous);
        }

        int setRule(int kind, int kinds) {
            if (kind < -1 || kind > 3 || kinds < 0 || kinds > 15) return BAD;
            List<Integer> next = new ArrayList<>(now.rules());
            int previous = next.set(kind == -1 ? 4 : kind, kinds);
            return change(now.rules(next), previous);
        }

        int setFilter(int tags) {
            if (tags < 0 || tags > 31) return BAD;
            return change(now.filter(tags), now.filter());
        }

        int undo() {
            if (history.isEmpty()) return STATE;
            now = history.pop();
            return history.size();
        }

        int refer(int source, int target) {
            if (!has(source) || !has(target)) return BAD;
            if (now.links().size() == 12) return FULL;
            List<Link> next = new ArrayList<>(now.links());
            next.add(new Link(source, target));
            return change(now.links(next), next.size() - 1);
        }

        int forget(int k) {
            if (k < 0 || k >= now.links().size()) return BAD;
            List<Link> next = new ArrayList<>(now.links());
            next.remove(k);
            return change(now.links(next), next.size());
        }

        int reference(int k, int what) {
            if (k < 0 || k >= now.links().size() || what < 0 || what > 4) return BAD;
            Link l = now.links().get(k);
            if (what == 0) return l.source();
            if (what == 4) return linkText(l).length();
            if (l.target() == NONE) return NONE;
            if (what == 1) return l.target();
            if (what == 2) {
                int order = Integer.compare(place(l.target()), place(l.source()));
                return order < 0 ? 1 : order > 0 ? 2 : 0;
            }
            return shown().contains(l.target()) ? 1 : 0;
        }

        String linkText(Link l) { return l.target() == NONE ? "?" : number(l.target()); }

        static int byteOf(String s, int i) { return i < s.length() ? s.charAt(i) : NONE; }

        int referenceText(int k, int i) {
            if (k < 0 || k >= now.links().size() || i < 0) return BAD;
            return byteOf(linkText(now.links().get(k)), i);
        }

        boolean open(Tree t, int h) { return t.above(h).stream().allMatch(a -> t.item.get(a).folded() == 0); }

        List<Integer> shown() {
            Tree t = tree();
            List<Integer> all = new ArrayList<>();
            for (Item i : now.items()) {
                boolean match = t.part(i.id()).stream()
                    .anyMatch(p -> now.filter() == 0 || (t.item.get(p).tags() & now.filter()) != 0);
                if (match && open(t, i.id())) {
                    all.add(i.id());
                }
            }
            return all;
        }

        int told(int what) {
            Tree t = tree();
            switch (what) {
                case 0: return now.items().size();
                case 1: return now.links().size();
                case 2: return (int) now.links().stream().filter(l -> l.target() == NONE).count();
                case 3: return (int) now.items().stream().filter(i -> open(t, i.id())).count();
                case 4: return shown().size();
                case 5: return now.items().stream().mapToInt(Item::level).max().orElse(0);
                case 6: return now.filter();
                case 7: return history.size();
                case 8: return text.length();
                case 9: return (int) now.items().stream().filter(i -> !t.fits(i.id(), now.rules())).count();
                default: return BAD;
            }
        }

        static int nth(List<Integer> list, int k) { return k < 0 ? BAD : k < list.size() ? list.get(k) : NONE; }

        int headingAt(int place) { return nth(now.items().stream().map(Item::id).collect(Collectors.toList()), place); }

        int shownAt(int k) { return nth(shown(), k); }

        int heading(int h, int what) {
            if (!has(h)) return BAD;
            Tree t = tree();
            Item i = t.item.get(h);
            switch (what) {
                case 0: return place(h);
                case 1: return i.level();
                case 2: return i.kind();
                case 3: return i.tags();
                case 4: return i.folded();
                case 5: return i.start();
                case 6: return t.value(h);
                case 7: return t.parent.get(h) == -1 ? NONE : t.parent.get(h);
                case 8: return t.children.get(h).size();
                case 9: return t.part(h).size();
                case 10: return open(t, h) ? 1 : 0;
                case 11: return shown().contains(h) ? 1 : 0;
                case 12: return number(h).length();
                case 13: return (int) now.links().stream().filter(l -> l.target() == h).count();
                default: return BAD;
            }
        }

        int child(int h, int k) {
            if (h != -1 && !has(h)) return BAD;
            return nth(tree().children.get(h), k);
        }

        int numberText(int h, int i) {
            if (!has(h) || i < 0) return BAD;
            return byteOf(number(h), i);
        }

        String number(int h) {
            Tree t = tree();
            List<Integer> way = t.above(h);
            way.add(h);
            List<String> all = new ArrayList<>();
            for (int w : way) {
                int scheme = now.schemes().get(t.item.get(w).level() - 1);
                boolean left = scheme == 5 || t.item.get(w).start() == -1;
                if (left && w == h) {
                    return "";
                }
                if (!left) {
                    all.add(inScheme(t.value(w), scheme));
                }
            }
            return String.join(".", all);
        }

        static String inScheme(int value, int scheme) {
            switch (scheme) {
                case 1: return letters(value);
                case 2: return letters(value).toUpperCase();
                case 3: return roman(value);
                case 4: return roman(value).toUpperCase();
                default: return Integer.toString(value);
            }
        }

        /** By counting, the way the document lists them. */
        static String letters(int value) {
            String name = "a";
            for (int i = 1; i < value; i++) {
                name = after(name);
            }
            return name;
        }

        static String after(String name) {
            if (name.isEmpty()) {
                return "a";
            }
            String head = name.substring(0, name.length() - 1);
            char last = name.charAt(name.length() - 1);
            return last == 'z' ? after(head) + "a" : head + (char) (last + 1);
        }

        static String roman(int value) {
            String[] ones = {"", "i", "ii", "iii", "iv", "v", "vi", "vii", "viii", "ix"};
            String[] tens = {"", "x", "xx", "xxx", "xl", "l", "lx", "lxx", "lxxx", "xc"};
            return tens[value / 10] + ones[value % 10];
        }

        int write(int code) {
            if (code < 32 || code > 126) return BAD;
            if (text.length() == 40) return FULL;
            text += (char) code;
            return text.length();
        }

        int wipe() {
            int length = text.length();
            text = "";
            return length;
        }

        int find(int k) {
            if (k < 0) return BAD;
            if (text.isEmpty()) return STATE;
            return nth(now.items().stream().map(Item::id).filter(h -> number(h).equals(text)).collect(Collectors.toList()), k);
        }

        int keep(int i) {
            if (i < 0 || i > 1) return BAD;
            images[i] = now;
            return now.items().size();
        }

        int back(int i) {
            if (i < 0 || i > 1) return BAD;
            if (images[i] == null) return STATE;
            return change(images[i], images[i].items().size());
        }
    }

    // ---- the runs

    static final String[] NAMES = {"add", "remove", "promote", "demote", "drag", "setKind", "setTags", "fold", "setStart",
        "setScheme", "setRule", "setFilter", "undo", "refer", "forget", "reference", "referenceText", "told", "headingAt",
        "shownAt", "heading", "child", "numberText", "write", "wipe", "find", "keep", "back"};

    static int onEditor(OutlineEditor x, int m, int a, int b, int c) {
        switch (m) {
            case 0: return x.add(a, b, c);
            case 1: return x.remove(a, b);
            case 2: return x.promote(a);
            case 3: return x.demote(a);
            case 4: return x.drag(a, b, c);
            case 5: return x.setKind(a, b);
            case 6: return x.setTags(a, b);
            case 7: return x.fold(a, b);
            case 8: return x.setStart(a, b);
            case 9: return x.setScheme(a, b);
            case 10: return x.setRule(a, b);
            case 11: return x.setFilter(a);
            case 12: return x.undo();
            case 13: return x.refer(a, b);
            case 14: return x.forget(a);
            case 15: return x.reference(a, b);
            case 16: return x.referenceText(a, b);
            case 17: return x.told(a);
            case 18: return x.headingAt(a);
            case 19: return x.shownAt(a);
            case 20: return x.heading(a, b);
            case 21: return x.child(a, b);
            case 22: return x.numberText(a, b);
            case 23: return x.write(a);
            case 24: return x.wipe();
            case 25: return x.find(a);
            case 26: return x.keep(a);
            default: return x.back(a);
        }
    }

    static int onModel(Model x, int m, int a, int b, int c) {
        switch (m) {
            case 0: return x.add(a, b, c);
            case 1: return x.remove(a, b);
            case 2: return x.promote(a);
            case 3: return x.demote(a);
            case 4: return x.drag(a, b, c);
            case 5: return x.setKind(a, b);
            case 6: return x.setTags(a, b);
            case 7: return x.fold(a, b);
            case 8: return x.setStart(a, b);
            case 9: return x.setScheme(a, b);
            case 10: return x.setRule(a, b);
            case 11: return x.setFilter(a);
            case 12: return x.undo();
            case 13: return x.refer(a, b);
            case 14: return x.forget(a);
            case 15: return x.reference(a, b);
            case 16: return x.referenceText(a, b);
            case 17: return x.told(a);
            case 18: return x.headingAt(a);
            case 19: return x.shownAt(a);
            case 20: return x.heading(a, b);
            case 21: return x.child(a, b);
            case 22: return x.numberText(a, b);
            case 23: return x.write(a);
            case 24: return x.wipe();
            case 25: return x.find(a);
            case 26: return x.keep(a);
            default: return x.back(a);
        }
    }

    /** Mostly within the range, now and then at its edge or beyond it. */
    static int pick(Random r, int least, int greatest) {
        int dice = r.nextInt(40);
        if (dice == 0) return least - 1;
        if (dice == 1) return greatest + 1;
        if (dice == 2) return r.nextInt();
        return greatest < least ? least : least + r.nextInt(greatest - least + 1);
    }

    static int anyHeading(Random r, Model x) {
        int n = x.now.items().size();
        return n == 0 || r.nextInt(40) == 0 ? pick(r, 0, 29) : x.now.items().get(r.nextInt(n)).id();
    }

    static int pickMethod(Random r, int flavour) {
        int dice = r.nextInt(100);
        // Runs of the flavour 0 mix all calls; others grow large outlines, or ask for rules more often.
        if (flavour == 1 && dice < 45) return 0;
        if (flavour == 2 && dice < 10) return 10;
        if (flavour == 3 && dice < 30) return 4;
        if (flavour == 4 && dice < 25) return 13;
        if (dice < 70) {
            return r.nextInt(23) % 15 < 2 && r.nextBoolean() ? 0 : r.nextInt(23);
        }
        return dice < 85 ? 0 : r.nextInt(NAMES.length);
    }

    static int[] arguments(Random r, Model x, int m) {
        int n = x.now.items().size();
        int links = x.now.links().size();
        int h = anyHeading(r, x);
        switch (m) {
            case 0: {
                int at = pick(r, 0, n);
                int before = at > 0 && at <= n ? x.now.items().get(at - 1).level() : 0;
                int level = r.nextInt(4) == 0 ? pick(r, 1, 6) : 1 + r.nextInt(Math.min(6, before + 1));
                return new int[] {at, level, pick(r, 0, 3)};
            }
            case 1: return new int[] {h, r.nextInt(3) == 0 ? pick(r, 0, 1) : 1, 0};
            case 4: return new int[] {h, anyHeading(r, x), pick(r, 0, 3)};
            case 5: return new int[] {h, pick(r, 0, 3), 0};
            case 6: return new int[] {h, r.nextBoolean() ? 1 << r.nextInt(5) : pick(r, 0, 31), 0};
            case 7: return new int[] {h, r.nextInt(3) == 0 ? pick(r, 0, 1) : 0, 0};
            case 8: return new int[] {h, r.nextBoolean() ? pick(r, -1, 0) : pick(r, -1, 60), 0};
            case 9: return new int[] {pick(r, 1, 6), pick(r, 0, r.nextBoolean() ? 5 : 4), 0};
            case 10: return new int[] {pick(r, -1, 3), r.nextBoolean() ? 15 : pick(r, 0, 15) | 1 << r.nextInt(4), 0};
            case 11: return new int[] {r.nextBoolean() ? 0 : pick(r, 0, 31), 0, 0};
            case 13: return new int[] {h, anyHeading(r, x), 0};
            case 14: return new int[] {pick(r, 0, links - 1), 0, 0};
            case 15: return new int[] {pick(r, 0, links - 1), pick(r, 0, 4), 0};
            case 16: return new int[] {pick(r, 0, links - 1), pick(r, 0, 8), 0};
            case 17: return new int[] {pick(r, 0, 9), 0, 0};
            case 18: case 19: return new int[] {pick(r, 0, n - 1), 0, 0};
            case 20: return new int[] {h, pick(r, 0, 13), 0};
            case 21: return new int[] {r.nextInt(4) == 0 ? -1 : h, pick(r, 0, 3), 0};
            case 22: return new int[] {h, pick(r, 0, 12), 0};
            case 23: return new int[] {pick(r, 32, 126), 0, 0};
            case 25: return new int[] {pick(r, 0, 1), 0, 0};
            case 26: case 27: return new int[] {pick(r, 0, 1), 0, 0};
            default: return new int[] {h, 0, 0};
        }
    }

    private static int wrong = 0;
    /** The calls that the object of this run has had. */
    private static int calls = 0;

    static boolean same(int run, OutlineEditor x, Model y, int m, int a, int b, int c) {
        if (calls >= CALLS) {
            return true;
        }
        calls++;
        int got = onEditor(x, m, a, b, c);
        int want = onModel(y, m, a, b, c);
        if (got != want) {
            wrong++;
            System.out.println("run " + run + ": " + NAMES[m] + Arrays.toString(new int[] {a, b, c}) + " answered " + got
                + ", due is " + want);
        }
        return got == want;
    }

    /** All that can be asked, now and then; these calls change nothing, so they leave the run as it is. */
    static boolean sameInAll(int run, OutlineEditor x, Model y) {
        boolean same = true;
        for (int what = 0; what <= 9; what++) {
            same &= same(run, x, y, 17, what, 0, 0);
        }
        for (Item i : y.now.items()) {
            for (int what = 0; what <= 13; what++) {
                same &= same(run, x, y, 20, i.id(), what, 0);
            }
            for (int at = 0; at <= y.number(i.id()).length(); at++) {
                same &= same(run, x, y, 22, i.id(), at, 0);
            }
        }
        for (int k = 0; k < y.now.links().size(); k++) {
            for (int what = 0; what <= 4; what++) {
                same &= same(run, x, y, 15, k, what, 0);
            }
        }
        for (int k = 0; k <= y.now.items().size(); k++) {
            same &= same(run, x, y, 18, k, 0, 0) & same(run, x, y, 19, k, 0, 0) & same(run, x, y, 21, -1, k, 0);
        }
        return same;
    }

    /** Writes the number of some heading, so that find has something to find. */
    static boolean lookUp(int run, Random r, OutlineEditor x, Model y) {
        boolean same = same(run, x, y, 24, 0, 0, 0);
        int n = y.now.items().size();
        String number = n == 0 ? "1" : y.number(y.now.items().get(r.nextInt(n)).id());
        for (int i = 0; i < number.length(); i++) {
            same &= same(run, x, y, 23, number.charAt(i), 0, 0);
        }
        return same & same(run, x, y, 25, 0, 0, 0) & same(run, x, y, 25, 1, 0, 0);
    }

    public static void main(String[] args) {
        for (int run = 0; run < RUNS && wrong < 20; run++) {
            Random r = new Random(run);
            OutlineEditor x = new OutlineEditor();
            Model y = new Model();
            int flavour = run % 5;
            boolean same = true;
            calls = 0;
            while (calls < CALLS && same) {
                int m = pickMethod(r, flavour);
                int[] a = arguments(r, y, m);
                same = same(run, x, y, m, a[0], a[1], a[2]);
                if (r.nextInt(150) == 0) {
                    same &= sameInAll(run, x, y);
                }
                if (r.nextInt(80) == 0) {
                    same &= lookUp(run, r, x, y);
                }
            }
        }
        System.out.println(wrong == 0 ? "all runs answer as the model does" : wrong + " answers differ from the model's");
        if (wrong != 0) {
            System.exit(1);
        }
    }
}
