/**
 * An editor for outlines: headings in several levels, with numbers in several alphabets, and
 * references that follow their headings.
 */
public final class OutlineEditor {
    public static final int BAD = -1, STATE = -2, FULL = -3, DENIED = -4, NONE = -9;

    private static final int MAX_HEADINGS = 30;
    private static final int MAX_LEVEL = 6;
    private static final int MAX_KIND = 3;
    private static final int ALL_KINDS = 15;
    private static final int ALL_TAGS = 31;
    private static final int MAX_START = 60;
    private static final int MAX_REFERENCES = 12;
    private static final int MAX_CHANGES = 8;
    private static final int MAX_TEXT = 40;
    private static final int IMAGES = 2;

    /** Stands for the kind of a parent where there is none: the rule for level 1 is the rule of this kind. */
    private static final int NO_KIND = -1;

    private static final int UNNUMBERED = -1;
    private static final int NO_START = 0;

    private static final int SMALL_LETTERS = 1;
    private static final int CAPITAL_LETTERS = 2;
    private static final int SMALL_ROMAN = 3;
    private static final int CAPITAL_ROMAN = 4;
    private static final int NO_SCHEME = 5;

    /** The longest number: a value is at most 60 + 29, none takes more than the 8 signs of lxxxviii, and 5 points. */
    private static final int LINE_ROOM = 6 * 8 + 5;

    private static final int LETTERS = 26;
    private static final int[] ROMAN_VALUES = {1000, 900, 500, 400, 100, 90, 50, 40, 10, 9, 5, 4, 1};
    /** The signs of each Roman value; a blank where it has one sign alone. */
    private static final char[] ROMAN_FIRST = {'m', 'c', 'd', 'c', 'c', 'x', 'l', 'x', 'x', 'i', 'v', 'i', 'i'};
    private static final char[] ROMAN_SECOND = {' ', 'm', ' ', 'd', ' ', 'c', ' ', 'l', ' ', 'x', ' ', 'v', ' '};

    private final Outline now;
    private final Outline[] history;
    private int changes;
    private final Outline[] images;
    private final boolean[] kept;
    private final Line text;
    /** Every number is written here, so that no call makes an object. */
    private final Line number;

    public OutlineEditor() {
        now = new Outline();
        history = new Outline[MAX_CHANGES];
        for (int i = 0; i < MAX_CHANGES; i++) {
            history[i] = new Outline();
        }
        images = new Outline[IMAGES];
        for (int i = 0; i < IMAGES; i++) {
            images[i] = new Outline();
        }
        kept = new boolean[IMAGES];
        text = new Line();
        number = new Line();
    }

    // ---- headings

    public int add(int at, int level, int kind) {
        if (!within(at, 0, now.count) || !within(level, 1, MAX_LEVEL) || !within(kind, 0, MAX_KIND)) {
            return BAD;
        }
        if (level > now.levelAt(at - 1) + 1 || now.levelAt(at) > level + 1) {
            return STATE;
        }
        if (now.count >= MAX_HEADINGS) {
            return FULL;
        }
        int above = now.placeAbove(at, level);
        if (!now.allows(now.kindAt(above), kind) || !now.allowsAll(kind, at, level + 1)) {
            return DENIED;
        }
        remember();
        return now.insert(at, level, kind);
    }

    public int remove(int h, int how) {
        int place = now.placeOf(h);
        if (place < 0 || !within(how, 0, 1)) {
            return BAD;
        }
        int end = now.endOfPart(place);
        if (how == 0) {
            remember();
            now.cut(place, end);
            return end - place;
        }
        int level = now.levelAt(place);
        int above = now.placeAbove(place, level);
        if (!now.allowsAll(now.kindAt(above), place + 1, level + 1)) {
            return DENIED;
        }
        remember();
        now.shiftLevels(place + 1, end, -1);
        now.cut(place, place + 1);
        return 1;
    }

    public int promote(int h) {
        int place = now.placeOf(h);
        if (place < 0) {
            return BAD;
        }
        int level = now.levelAt(place);
        if (level == 1) {
            return STATE;
        }
        int end = now.endOfPart(place);
        int above = now.placeAbove(place, level - 1);
        int kind = now.kindAt(place);
        // The siblings behind its part have the level of its children then.
        if (!now.allows(now.kindAt(above), kind) || !now.allowsAll(kind, end, level)) {
            return DENIED;
        }
        remember();
        now.shiftLevels(place, end, -1);
        return level - 1;
    }

    public int demote(int h) {
        int place = now.placeOf(h);
        if (place < 0) {
            return BAD;
        }
        int level = now.levelAt(place);
        int end = now.endOfPart(place);
        // The sibling before it, or its parent if there is no such sibling.
        int before = now.placeAbove(place, level + 1);
        if (now.levelAt(before) != level || now.deepest(place, end) >= MAX_LEVEL) {
            return STATE;
        }
        if (!now.allows(now.kindAt(before), now.kindAt(place))) {
            return DENIED;
        }
        remember();
        now.shiftLevels(place, end, 1);
        return level + 1;
    }

    public int drag(int h, int target, int where) {
        int place = now.placeOf(h);
        int goal = now.placeOf(target);
        if (place < 0 || goal < 0 || !within(where, 0, 3)) {
            return BAD;
        }
        int end = now.endOfPart(place);
        int goalLevel = now.levelAt(goal);
        int by = goalLevel - now.levelAt(place) + (where >= 2 ? 1 : 0);
        if (within(goal, place, end - 1) || now.deepest(place, end) + by > MAX_LEVEL) {
            return STATE;
        }
        int above = where >= 2 ? goal : now.placeAbove(goal, goalLevel);
        if (!now.allows(now.kindAt(above), now.kindAt(place))) {
            return DENIED;
        }
        remember();
        int to = placeForDrag(goal, where);
        now.shiftLevels(place, end, by);
        return now.move(place, end, to);
    }

    public int setKind(int h, int kind) {
        int place = now.placeOf(h);
        if (place < 0 || !within(kind, 0, MAX_KIND)) {
            return BAD;
        }
        int level = now.levelAt(place);
        int above = now.placeAbove(place, level);
        if (!now.allows(now.kindAt(above), kind) || !now.allowsAll(kind, place + 1, level + 1)) {
            return DENIED;
        }
        remember();
        int previous = now.kinds[h];
        now.kinds[h] = kind;
        return previous;
    }

    public int setTags(int h, int tags) {
        if (!now.has(h) || !within(tags, 0, ALL_TAGS)) {
            return BAD;
        }
        remember();
        int previous = now.tags[h];
        now.tags[h] = tags;
        return previous;
    }

    public int fold(int h, int on) {
        if (!now.has(h) || !within(on, 0, 1)) {
            return BAD;
        }
        remember();
        int previous = now.folded[h];
        now.folded[h] = on;
        return previous;
    }

    public int setStart(int h, int start) {
        if (!now.has(h) || !within(start, UNNUMBERED, MAX_START)) {
            return BAD;
        }
        remember();
        int previous = now.starts[h];
        now.starts[h] = start;
        return previous;
    }

    public int setScheme(int level, int scheme) {
        if (!within(level, 1, MAX_LEVEL) || !within(scheme, 0, NO_SCHEME)) {
            return BAD;
        }
        remember();
        int previous = now.schemes[level];
        now.schemes[level] = scheme;
        return previous;
    }

    public int setRule(int kind, int kinds) {
        if (!within(kind, NO_KIND, MAX_KIND) || !within(kinds, 0, ALL_KINDS)) {
            return BAD;
        }
        remember();
        int previous = now.rules[kind + 1];
        now.rules[kind + 1] = kinds;
        return previous;
    }

    public int setFilter(int tags) {
        if (!within(tags, 0, ALL_TAGS)) {
            return BAD;
        }
        remember();
        int previous = now.filter;
        now.filter = tags;
        return previous;
    }

    public int undo() {
        if (changes <= 0) {
            return STATE;
        }
        changes--;
        now.copyFrom(history[changes]);
        return changes;
    }

    // ---- references

    public int refer(int source, int target) {
        if (!now.has(source) || !now.has(target)) {
            return BAD;
        }
        if (now.references >= MAX_REFERENCES) {
            return FULL;
        }
        remember();
        return now.link(source, target);
    }

    public int forget(int k) {
        if (!within(k, 0, now.references - 1)) {
            return BAD;
        }
        remember();
        now.unlink(k);
        return now.references;
    }

    public int reference(int k, int what) {
        if (!within(k, 0, now.references - 1) || !within(what, 0, 4)) {
            return BAD;
        }
        int source = now.sources[k];
        int target = now.targets[k];
        if (what == 0) {
            return source;
        }
        if (what == 4) {
            writeReference(k);
            return number.length;
        }
        if (target == NONE || what == 1) {
            return target;
        }
        int place = now.placeOf(target);
        if (what == 3) {
            return asNumber(now.isShown(place));
        }
        int from = now.placeOf(source);
        return place < from ? 1 : place > from ? 2 : 0;
    }

    public int referenceText(int k, int i) {
        if (!within(k, 0, now.references - 1) || i < 0) {
            return BAD;
        }
        writeReference(k);
        return number.codeAt(i);
    }

    // ---- what is told

    public int told(int what) {
        switch (what) {
            case 0: return now.count;
            case 1: return now.references;
            case 2: return now.referencesTo(NONE);
            case 3: return now.countOpen();
            case 4: return now.countShown();
            case 5: return now.deepest(0, now.count);
            case 6: return now.filter;
            case 7: return changes;
            case 8: return text.length;
            case 9: return now.countMisplaced();
            default: return BAD;
        }
    }

    public int headingAt(int place) {
        if (place < 0) {
            return BAD;
        }
        return now.idAt(place);
    }

    public int shownAt(int k) {
        if (k < 0) {
            return BAD;
        }
        int left = k;
        for (int place = 0; place < now.count; place++) {
            if (now.isShown(place)) {
                if (left == 0) {
                    return now.idAt(place);
                }
                left--;
            }
        }
        return NONE;
    }

    public int heading(int h, int what) {
        int place = now.placeOf(h);
        if (place < 0) {
            return BAD;
        }
        switch (what) {
            case 0: return place;
            case 1: return now.levelAt(place);
            case 2: return now.kindAt(place);
            case 3: return now.tags[h];
            case 4: return now.folded[h];
            case 5: return now.starts[h];
            case 6: return now.valueAt(place);
            case 7: return now.idAt(now.placeAbove(place, now.levelAt(place)));
            case 8: return now.countChildren(place);
            case 9: return now.endOfPart(place) - place;
            case 10: return asNumber(now.isOpen(place));
            case 11: return asNumber(now.isShown(place));
            case 12: return numberLength(place);
            case 13: return now.referencesTo(h);
            default: return BAD;
        }
    }

    public int child(int h, int k) {
        int place = now.placeOf(h);
        if ((place < 0 && h != -1) || k < 0) {
            return BAD;
        }
        return now.idAt(now.childPlace(place, k));
    }

    public int numberText(int h, int i) {
        int place = now.placeOf(h);
        if (place < 0 || i < 0) {
            return BAD;
        }
        now.writeNumber(place, number);
        return number.codeAt(i);
    }

    // ---- the text, by which a heading is looked for

    public int write(int code) {
        if (!within(code, 32, 126)) {
            return BAD;
        }
        if (text.length >= MAX_TEXT) {
            return FULL;
        }
        text.append(code);
        return text.length;
    }

    public int wipe() {
        int previous = text.length;
        text.clear();
        return previous;
    }

    public int find(int k) {
        if (k < 0) {
            return BAD;
        }
        if (text.length == 0) {
            return STATE;
        }
        int left = k;
        for (int place = 0; place < now.count; place++) {
            now.writeNumber(place, number);
            if (number.sameAs(text)) {
                if (left == 0) {
                    return now.idAt(place);
                }
                left--;
            }
        }
        return NONE;
    }

    // ---- images

    public int keep(int i) {
        if (!within(i, 0, IMAGES - 1)) {
            return BAD;
        }
        images[i].copyFrom(now);
        kept[i] = true;
        return now.count;
    }

    public int back(int i) {
        if (!within(i, 0, IMAGES - 1)) {
            return BAD;
        }
        if (!kept[i]) {
            return STATE;
        }
        remember();
        now.copyFrom(images[i]);
        return now.count;
    }

    // ---- helpers

    private static boolean within(int value, int least, int greatest) {
        return value >= least && value <= greatest;
    }

    private static int asNumber(boolean answer) {
        return answer ? 1 : 0;
    }

    /** Records the state before a change; called when no error code can apply any more. */
    private void remember() {
        if (changes >= MAX_CHANGES) {
            dropOldest();
        }
        history[changes].copyFrom(now);
        changes++;
    }

    /** The oldest state goes to the end of the row, to be written over there. */
    private void dropOldest() {
        Outline oldest = history[0];
        for (int i = 1; i < MAX_CHANGES; i++) {
            history[i - 1] = history[i];
        }
        history[MAX_CHANGES - 1] = oldest;
        changes = MAX_CHANGES - 1;
    }

    /** The place, in the list as it still is, before which a dragged part comes to stand. */
    private int placeForDrag(int goal, int where) {
        switch (where) {
            case 0: return goal;
            case 2: return goal + 1;
            default: return now.endOfPart(goal);
        }
    }

    private int numberLength(int place) {
        now.writeNumber(place, number);
        return number.length;
    }

    private void writeReference(int k) {
        int target = now.targets[k];
        if (target == NONE) {
            number.clear();
            number.append('?');
        } else {
            now.writeNumber(now.placeOf(target), number);
        }
    }

    /** A state: the headings, rules, schemes, references and the filter. */
    private static final class Outline {
        int count;
        /** The headings by their places; the rows below it go by headings. */
        final int[] order;
        /** A level of 0 means that there is no such heading. */
        final int[] levels;
        final int[] kinds;
        final int[] tags;
        final int[] folded;
        final int[] starts;
        /** The rule of the kind k at k + 1, that of level 1 at 0. */
        final int[] rules;
        final int[] schemes;
        int filter;
        int references;
        final int[] sources;
        /** NONE where a reference is broken. */
        final int[] targets;

        Outline() {
            order = new int[MAX_HEADINGS];
            levels = new int[MAX_HEADINGS];
            kinds = new int[MAX_HEADINGS];
            tags = new int[MAX_HEADINGS];
            folded = new int[MAX_HEADINGS];
            starts = new int[MAX_HEADINGS];
            rules = new int[MAX_KIND + 2];
            for (int i = 0; i < rules.length; i++) {
                rules[i] = ALL_KINDS;
            }
            schemes = new int[MAX_LEVEL + 1];
            sources = new int[MAX_REFERENCES];
            targets = new int[MAX_REFERENCES];
        }

        void copyFrom(Outline other) {
            count = other.count;
            copyRow(other.order, order);
            copyRow(other.levels, levels);
            copyRow(other.kinds, kinds);
            copyRow(other.tags, tags);
            copyRow(other.folded, folded);
            copyRow(other.starts, starts);
            copyRow(other.rules, rules);
            copyRow(other.schemes, schemes);
            filter = other.filter;
            references = other.references;
            copyRow(other.sources, sources);
            copyRow(other.targets, targets);
        }

        private static void copyRow(int[] from, int[] to) {
            System.arraycopy(from, 0, to, 0, Math.min(from.length, to.length));
        }

        // ---- places

        boolean has(int h) {
            return h >= 0 && h < MAX_HEADINGS && levels[h] > 0;
        }

        /** The place of a heading; -1 if there is no such heading. */
        int placeOf(int h) {
            if (!has(h)) {
                return -1;
            }
            for (int place = 0; place < count; place++) {
                if (order[place] == h) {
                    return place;
                }
            }
            return -1;
        }

        int idAt(int place) {
            return place >= 0 && place < count ? order[place] : NONE;
        }

        /** The level at a place; 0 outside of the list, as if all headings stood under a heading of level 0. */
        int levelAt(int place) {
            return place >= 0 && place < count ? levels[order[place]] : 0;
        }

        /** The kind at a place; outside of the list the one whose rule is that of level 1. */
        int kindAt(int place) {
            return place >= 0 && place < count ? kinds[order[place]] : NO_KIND;
        }

        int tagsAt(int place) {
            return place >= 0 && place < count ? tags[order[place]] : 0;
        }

        int startAt(int place) {
            return place >= 0 && place < count ? starts[order[place]] : NO_START;
        }

        /** The nearest place before this one with a level lower than the one given; -1 if there is none. */
        int placeAbove(int place, int level) {
            int above = place - 1;
            while (above >= 0 && levelAt(above) >= level) {
                above--;
            }
            return above;
        }

        int endOfPart(int place) {
            int level = levelAt(place);
            int end = place + 1;
            while (end < count && levelAt(end) > level) {
                end++;
            }
            return end;
        }

        int deepest(int from, int to) {
            int greatest = 0;
            for (int place = from; place < to; place++) {
                greatest = Math.max(greatest, levelAt(place));
            }
            return greatest;
        }

        int countChildren(int place) {
            int level = levelAt(place) + 1;
            int found = 0;
            for (int p = place + 1; p < count && levelAt(p) >= level; p++) {
                if (levelAt(p) == level) {
                    found++;
                }
            }
            return found;
        }

        /** The place of a child; place is -1 for the headings with level 1. The answer is -1 if there is none. */
        int childPlace(int place, int k) {
            int level = levelAt(place) + 1;
            int left = k;
            for (int p = place + 1; p < count && levelAt(p) >= level; p++) {
                if (levelAt(p) == level) {
                    if (left == 0) {
                        return p;
                    }
                    left--;
                }
            }
            return -1;
        }

        // ---- rules

        boolean allows(int parentKind, int kind) {
            return (rules[parentKind + 1] >> kind & 1) == 1;
        }

        /** Whether a parent may have all headings of a level, from a place on to the next lower level, as children. */
        boolean allowsAll(int parentKind, int from, int level) {
            for (int place = from; place < count && levelAt(place) >= level; place++) {
                if (levelAt(place) == level && !allows(parentKind, kindAt(place))) {
                    return false;
                }
            }
            return true;
        }

        int countMisplaced() {
            int found = 0;
            for (int place = 0; place < count; place++) {
                int above = placeAbove(place, levelAt(place));
                if (!allows(kindAt(above), kindAt(place))) {
                    found++;
                }
            }
            return found;
        }

        // ---- folding and the filter

        boolean isOpen(int place) {
            int level = levelAt(place);
            for (int p = place - 1; p >= 0; p--) {
                if (levelAt(p) < level) {
                    if (folded[order[p]] == 1) {
                        return false;
                    }
                    level = levelAt(p);
                }
            }
            return true;
        }

        boolean matches(int place) {
            return filter == 0 || (tagsAt(place) & filter) != 0;
        }

        boolean isShown(int place) {
            if (!isOpen(place)) {
                return false;
            }
            int end = endOfPart(place);
            for (int p = place; p < end; p++) {
                if (matches(p)) {
                    return true;
                }
            }
            return false;
        }

        int countOpen() {
            int found = 0;
            for (int place = 0; place < count; place++) {
                if (isOpen(place)) {
                    found++;
                }
            }
            return found;
        }

        int countShown() {
            int found = 0;
            for (int place = 0; place < count; place++) {
                if (isShown(place)) {
                    found++;
                }
            }
            return found;
        }

        // ---- numbers

        int valueAt(int place) {
            int level = levelAt(place);
            if (startAt(place) == UNNUMBERED) {
                return 0;
            }
            int steps = 0;
            for (int p = place; p >= 0 && levelAt(p) >= level; p--) {
                if (levelAt(p) == level && startAt(p) != UNNUMBERED) {
                    if (startAt(p) != NO_START) {
                        return startAt(p) + steps;
                    }
                    steps++;
                }
            }
            return steps;
        }

        boolean isNumbered(int place) {
            return startAt(place) != UNNUMBERED && schemes[levelAt(place)] != NO_SCHEME;
        }

        void writeNumber(int place, Line line) {
            line.clear();
            if (!isNumbered(place)) {
                return;
            }
            int last = levelAt(place);
            for (int level = 1; level <= last; level++) {
                int step = placeAbove(place + 1, level + 1);
                if (isNumbered(step)) {
                    if (line.length > 0) {
                        line.append('.');
                    }
                    line.appendValue(valueAt(step), schemes[level]);
                }
            }
        }

        // ---- changes of the list

        int insert(int at, int level, int kind) {
            int h = lowestFree();
            if (h == NONE) {
                return FULL;
            }
            for (int place = count; place > at; place--) {
                order[place] = order[place - 1];
            }
            order[at] = h;
            count++;
            levels[h] = level;
            kinds[h] = kind;
            tags[h] = 0;
            folded[h] = 0;
            starts[h] = NO_START;
            return h;
        }

        private int lowestFree() {
            for (int h = 0; h < MAX_HEADINGS; h++) {
                if (levels[h] == 0) {
                    return h;
                }
            }
            return NONE;
        }

        /** Takes the headings from one place up to another one out of the list. */
        void cut(int from, int to) {
            for (int place = from; place < to; place++) {
                levels[order[place]] = 0;
                dropReferences(order[place]);
            }
            for (int place = to; place < count; place++) {
                order[place - (to - from)] = order[place];
            }
            count -= to - from;
        }

        void shiftLevels(int from, int to, int by) {
            for (int place = from; place < to; place++) {
                levels[order[place]] += by;
            }
        }

        /** Moves the headings from one place up to another one before a third one; answers their new first place. */
        int move(int from, int to, int before) {
            if (before <= from) {
                swapBlocks(before, from, to);
                return before;
            }
            swapBlocks(from, to, before);
            return before - (to - from);
        }

        /** Two blocks that stand side by side change places: each is turned round, then both together. */
        private void swapBlocks(int first, int second, int end) {
            turnRound(first, second);
            turnRound(second, end);
            turnRound(first, end);
        }

        private void turnRound(int from, int to) {
            int left = from;
            int right = to - 1;
            while (left < right) {
                int h = order[left];
                order[left] = order[right];
                order[right] = h;
                left++;
                right--;
            }
        }

        // ---- references

        int link(int source, int target) {
            int k = references;
            sources[k] = source;
            targets[k] = target;
            references++;
            return k;
        }

        void unlink(int k) {
            for (int i = k + 1; i < references; i++) {
                sources[i - 1] = sources[i];
                targets[i - 1] = targets[i];
            }
            references--;
        }

        /** A heading goes: the references in it go too, and those to it are broken. */
        private void dropReferences(int h) {
            for (int k = references - 1; k >= 0; k--) {
                if (sources[k] == h) {
                    unlink(k);
                } else if (targets[k] == h) {
                    targets[k] = NONE;
                }
            }
        }

        int referencesTo(int target) {
            int found = 0;
            for (int k = 0; k < references; k++) {
                if (targets[k] == target) {
                    found++;
                }
            }
            return found;
        }
    }

    /** A row of bytes that grows at its end. */
    private static final class Line {
        final int[] codes;
        int length;

        Line() {
            codes = new int[LINE_ROOM];
        }

        void clear() {
            length = 0;
        }

        void append(int code) {
            if (length < LINE_ROOM) {
                codes[length] = code;
                length++;
            }
        }

        int codeAt(int i) {
            return i >= 0 && i < length ? codes[i] : NONE;
        }

        boolean sameAs(Line other) {
            if (length != other.length) {
                return false;
            }
            for (int i = 0; i < length; i++) {
                if (codes[i] != other.codes[i]) {
                    return false;
                }
            }
            return true;
        }

        void appendValue(int value, int scheme) {
            switch (scheme) {
                case SMALL_LETTERS:
                    appendLetters(value, 'a');
                    break;
                case CAPITAL_LETTERS:
                    appendLetters(value, 'A');
                    break;
                case SMALL_ROMAN:
                    appendRoman(value, 0);
                    break;
                case CAPITAL_ROMAN:
                    appendRoman(value, 'A' - 'a');
                    break;
                default:
                    appendDecimal(value);
                    break;
            }
        }

        /** Two digits are enough: a value is at most 60 + 29. */
        private void appendDecimal(int value) {
            if (value >= 10) {
                append('0' + value / 10);
            }
            append('0' + value % 10);
        }

        /** Two letters are enough up to 702; there is no letter for zero, so z is followed by aa. */
        private void appendLetters(int value, int first) {
            int rounds = (value - 1) / LETTERS;
            if (rounds > 0) {
                append(first + rounds - 1);
            }
            append(first + (value - 1) % LETTERS);
        }

        /** The shift is what leads from a small sign to the one that is written. */
        private void appendRoman(int value, int shift) {
            int rest = value;
            for (int i = 0; i < ROMAN_VALUES.length; i++) {
                while (rest >= ROMAN_VALUES[i]) {
                    append(ROMAN_FIRST[i] + shift);
                    if (ROMAN_SECOND[i] != ' ') {
                        append(ROMAN_SECOND[i] + shift);
                    }
                    rest -= ROMAN_VALUES[i];
                }
            }
        }
    }
}
