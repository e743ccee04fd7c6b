/** A reader of patterns: the first fault and its place, or the pattern as a tree, node by node. */
public final class PatternNodes {
    public static final int NONE = -1;

    private static final int MOST_BYTES = 400;
    private static final int MOST_DEPTH = 30;
    private static final int MOST_NUMBERED = 9;
    private static final int LONGEST_NAME = 12;
    private static final int MOST_TIMES = 100;
    private static final int MOST_SIZE = 1000000;

    private static final int LAST_CHARACTER = 1114111;
    private static final int GAP_BEGIN = 55296;
    private static final int GAP_END = 57343;

    private static final int FLAG_I = 1;
    private static final int FLAG_M = 2;
    private static final int FLAG_S = 4;
    private static final int FLAG_U = 8;
    private static final int ALL_FLAGS = 15;

    private static final int CHARACTER = 0;
    private static final int CLASS = 1;
    private static final int ONE_BYTE = 2;
    private static final int ASSERTION = 3;
    private static final int ROW = 4;
    private static final int ALTERNATIVES = 5;
    private static final int GROUP = 6;
    private static final int GREEDY = 7;
    private static final int LAZY = 8;

    private static final int AT_BEGINNING = 0;
    private static final int AT_END = 1;
    private static final int AT_LINE_BEGINNING = 2;
    private static final int AT_LINE_END = 3;
    private static final int AT_WORD_EDGE = 4;
    private static final int OFF_WORD_EDGE = 5;

    private static final int ODD_BYTE = 1;
    private static final int ENDS_IN_GROUP = 2;
    private static final int CLOSES_NOTHING = 3;
    private static final int ENDS_IN_CLASS = 4;
    private static final int NO_SUCH_ESCAPE = 5;
    private static final int BAD_RANGE = 6;
    private static final int NO_SUCH_SET = 7;
    private static final int REPEATS_NOTHING = 8;
    private static final int BAD_TIMES = 9;
    private static final int NO_SUCH_GROUP = 10;
    private static final int NAME_TAKEN = 11;
    private static final int TOO_DEEP = 12;
    private static final int TOO_MANY_NUMBERED = 13;

    // Sets of characters: beginning and end of each range, in ascending order.
    private static final int[] NO_SET = {};
    private static final int[] LINE_FEED = {10, 10};
    private static final int[] DIGITS = {48, 57};
    private static final int[] SPACES = {9, 10, 12, 13, 32, 32};
    private static final int[] WORDS = {48, 57, 65, 90, 95, 95, 97, 122};
    private static final int[] PROPERTY_L = {
        65, 90, 97, 122, 170, 170, 181, 181, 186, 186, 192, 214, 216, 246, 248, 687, 880, 1279};
    private static final int[] PROPERTY_N = {48, 57, 178, 179, 185, 185, 188, 190};
    private static final int[] PROPERTY_G = {880, 1023};
    private static final int[] PROPERTY_Y = {1024, 1279};
    private static final int[] NAMED_ALPHA = {65, 90, 97, 122};
    private static final int[] NAMED_UPPER = {65, 90};
    private static final int[] NAMED_LOWER = {97, 122};
    private static final int[] NAMED_PUNCT = {33, 47, 58, 64, 91, 96, 123, 126};
    private static final int[] NAMED_SPACE = {9, 13, 32, 32};

    // Characters alike in pairs: first, last, and how far off their partners are.
    private static final int[] PAIRED = {
        65, 90, 32, 97, 122, -32,
        192, 214, 32, 224, 246, -32,
        216, 222, 32, 248, 254, -32,
        913, 937, 32, 945, 969, -32,
        1040, 1071, 32, 1072, 1103, -32,
        1024, 1039, 80, 1104, 1119, -80};

    // Characters alike by more than one pair, four a line; a line of three says its last one twice.
    private static final int[] KIN = {
        75, 107, 8490, 8490,
        83, 115, 383, 383,
        197, 229, 8491, 8491,
        181, 924, 956, 956,
        930, 931, 962, 963};

    private final Pattern pattern = new Pattern();
    private final Mistake mistake = new Mistake();
    private final Tree tree = new Tree();
    private final NumberedGroups groups = new NumberedGroups();
    private final TreeReader reader = new TreeReader(pattern, mistake, tree, groups);

    public PatternNodes() {
    }

    public boolean put(long v, int n) {
        return pattern.append(v, n);
    }

    public int read(int flags) throws IllegalArgumentException {
        if (flags < 0 || flags > ALL_FLAGS) {
            throw new IllegalArgumentException("flags are not 0 .. 15");
        }
        reader.begin(flags);
        for (int turn = 0; turn < MOST_BYTES && reader.hasMore(); turn++) {
            reader.readNext();
        }
        reader.end();
        pattern.clear();
        if (mistake.number != 0) {
            tree.clear();
            groups.clear();
            throw new IllegalArgumentException("the pattern has a fault");
        }
        return groups.howMany;
    }

    public int fault(int what) {
        if (what == 0) {
            return mistake.number;
        }
        return what == 1 ? mistake.place : NONE;
    }

    public int count(int what) {
        switch (what) {
            case 0: return tree.nodes;
            case 1: return groups.howMany;
            case 2: return pattern.length;
            default: return NONE;
        }
    }

    public int node(int i, int what) {
        return tree.told(i, what);
    }

    public int range(int i, int k, int which) {
        return tree.rangeEdge(i, k, which);
    }

    public int name(int k, int i) {
        return groups.nameByte(k, i);
    }

    private static boolean isCharacter(int c) {
        return c >= 0 && c <= LAST_CHARACTER && (c < GAP_BEGIN || c > GAP_END);
    }

    /** How many bytes UTF-8 has for a character. */
    private static int widthOf(int c) {
        if (c < 128) {
            return 1;
        }
        if (c < 2048) {
            return 2;
        }
        return c < 65536 ? 3 : 4;
    }

    private static boolean isDigit(int c) {
        return c >= '0' && c <= '9';
    }

    private static boolean isWord(int c) {
        return isDigit(c) || c >= 'A' && c <= 'Z' || c >= 'a' && c <= 'z' || c == '_';
    }

    private static int hexadecimal(int c) {
        if (c >= '0' && c <= '9') {
            return c - '0';
        }
        if (c >= 'A' && c <= 'F') {
            return c - 'A' + 10;
        }
        return c >= 'a' && c <= 'f' ? c - 'a' + 10 : NONE;
    }

    /** The bytes in hand. */
    private static final class Pattern {
        private final int[] bytes = new int[MOST_BYTES];
        private int length = 0;

        void clear() {
            length = 0;
        }

        boolean append(long v, int n) {
            if (n < 0 || n > 8 || n > MOST_BYTES - length) {
                return false;
            }
            for (int k = n - 1; k >= 0; k--) {
                bytes[length] = (int) (v >>> (8 * k)) & 255;
                length++;
            }
            return true;
        }

        /** The byte at a place, NONE outside of the pattern. */
        int at(int place) {
            return place >= 0 && place < length ? bytes[place] : NONE;
        }

        /** The character that begins at a place, NONE if none does. */
        int characterAt(int place) {
            int lead = at(place);
            if (lead < 128) {
                return lead;
            }
            if (lead < 192 || lead >= 248) {
                return NONE;
            }
            int more = lead < 224 ? 1 : lead < 240 ? 2 : 3;
            int c = lead & (63 >> more);
            for (int k = 1; k <= more; k++) {
                int next = at(place + k);
                if (next < 128 || next >= 192) {
                    return NONE;
                }
                c = c << 6 | next & 63;
            }
            return isCharacter(c) && widthOf(c) == more + 1 ? c : NONE;
        }

        boolean hasText(int place, String text) {
            for (int k = 0; k < text.length(); k++) {
                if (at(place + k) != text.charAt(k)) {
                    return false;
                }
            }
            return true;
        }
    }

    /** The first fault that was met. */
    private static final class Mistake {
        private int number = 0;
        private int place = NONE;

        void clear() {
            number = 0;
            place = NONE;
        }

        void tell(int newNumber, int newPlace) {
            if (number == 0) {
                number = newNumber;
                place = newPlace;
            }
        }
    }

    /** A set under work: ranges in ascending order, apart by more than 1. */
    private static final class CharacterSet {
        // At most 398 characters written out, some 270 alike to others, and the fixed sets' ranges.
        private static final int ROOM = 1024;

        private final int[] begins = new int[ROOM];
        private final int[] ends = new int[ROOM];
        private int pieces = 0;

        void clear() {
            pieces = 0;
        }

        void add(int from, int to) {
            if (from > to) {
                return;
            }
            int low = 0;
            while (low < pieces && ends[low] < from - 1) {
                low++;
            }
            int high = low;
            while (high < pieces && begins[high] <= to + 1) {
                high++;
            }
            int behind = pieces - high;
            if (low + 1 + behind > ROOM) {
                return;
            }
            int begin = low < high && begins[low] < from ? begins[low] : from;
            int end = low < high && ends[high - 1] > to ? ends[high - 1] : to;
            System.arraycopy(begins, high, begins, low + 1, behind);
            System.arraycopy(ends, high, ends, low + 1, behind);
            begins[low] = begin;
            ends[low] = end;
            pieces = low + 1 + behind;
        }

        void addWithAlike(int from, int to) {
            add(from, to);
            for (int k = 0; k + 2 < PAIRED.length; k += 3) {
                int shift = PAIRED[k + 2];
                add(Math.max(from, PAIRED[k]) + shift, Math.min(to, PAIRED[k + 1]) + shift);
            }
            for (int k = 0; k + 3 < KIN.length; k += 4) {
                addKin(k, from, to);
            }
        }

        private void addKin(int line, int from, int to) {
            boolean met = false;
            for (int k = line; k < line + 4 && k < KIN.length; k++) {
                met = met || KIN[k] >= from && KIN[k] <= to;
            }
            for (int k = line; met && k < line + 4 && k < KIN.length; k++) {
                add(KIN[k], KIN[k]);
            }
        }

        void addSet(int[] spans, boolean others) {
            int next = 0;
            for (int k = 0; k + 1 < spans.length; k += 2) {
                if (others) {
                    add(next, spans[k] - 1);
                } else {
                    add(spans[k], spans[k + 1]);
                }
                next = spans[k + 1] + 1;
            }
            if (others) {
                add(next, LAST_CHARACTER);
            }
        }

        /** Ends the work: those that are not, if asked for, and nothing that is no character. */
        void finish(boolean others) {
            if (!others) {
                turnRound();
            }
            add(GAP_BEGIN, GAP_END);
            turnRound();
        }

        private void turnRound() {
            int next = 0;
            int kept = 0;
            for (int k = 0; k < pieces; k++) {
                int begin = begins[k];
                int end = ends[k];
                if (next < begin) {
                    begins[kept] = next;
                    ends[kept] = begin - 1;
                    kept++;
                }
                next = end + 1;
            }
            if (next <= LAST_CHARACTER && kept < ROOM) {
                begins[kept] = next;
                ends[kept] = LAST_CHARACTER;
                kept++;
            }
            pieces = kept;
        }

        boolean isOneCharacter() {
            return pieces == 1 && begins[0] == ends[0];
        }
    }

    /** The nodes, each behind its own; those that are nobody's yet are waiting. */
    private static final class Tree {
        // A byte makes a node at most, but the whole and each of the 9 numbered groups two more.
        private static final int ROOM = 512;
        // \PL makes most of them for its bytes: 11 ranges for 3.
        private static final int RANGE_ROOM = 1600;

        private final int[] kinds = new int[ROOM];
        private final int[] values = new int[ROOM];
        private final int[] mosts = new int[ROOM];
        private final int[] owners = new int[ROOM];
        private final int[] sizes = new int[ROOM];
        private final int[] firstRanges = new int[ROOM];
        private final int[] rangeCounts = new int[ROOM];
        private final int[] begins = new int[RANGE_ROOM];
        private final int[] ends = new int[RANGE_ROOM];
        private final int[] waiting = new int[ROOM];
        private int nodes = 0;
        private int ranges = 0;
        private int waits = 0;

        void clear() {
            nodes = 0;
            ranges = 0;
            waits = 0;
        }

        /** Adds a node that has nothing of its own. */
        void addLeaf(int kind, int value, int size) {
            addOver(0, kind, value, NONE, size);
        }

        /** Adds a node; the latest of those that wait, as many as own says, are its own. */
        void addOver(int own, int kind, int value, int most, int size) {
            if (nodes >= ROOM || own > waits) {
                return;
            }
            for (int k = 0; k < own; k++) {
                waits--;
                owners[waiting[waits]] = nodes;
            }
            kinds[nodes] = kind;
            values[nodes] = value;
            mosts[nodes] = most;
            owners[nodes] = NONE;
            sizes[nodes] = Math.min(size, MOST_SIZE);
            firstRanges[nodes] = ranges;
            rangeCounts[nodes] = 0;
            waiting[waits] = nodes;
            waits++;
            nodes++;
        }

        void addClass(CharacterSet set) {
            int many = set.pieces;
            if (nodes >= ROOM || many > RANGE_ROOM - ranges) {
                return;
            }
            addLeaf(CLASS, NONE, 2 + 4 * many);
            rangeCounts[nodes - 1] = many;
            System.arraycopy(set.begins, 0, begins, ranges, many);
            System.arraycopy(set.ends, 0, ends, ranges, many);
            ranges += many;
        }

        /** The sizes of the latest of those that wait, together. */
        int waitingSize(int own) {
            int sum = 0;
            for (int k = 1; k <= own && k <= waits; k++) {
                sum += sizes[waiting[waits - k]];
            }
            return sum;
        }

        int told(int i, int what) {
            if (i < 0 || i >= nodes) {
                return NONE;
            }
            switch (what) {
                case 0: return kinds[i];
                case 1: return values[i];
                case 2: return mosts[i];
                case 3: return owners[i];
                case 4: return sizes[i];
                case 5: return rangeCounts[i];
                default: return NONE;
            }
        }

        int rangeEdge(int i, int k, int which) {
            if (i < 0 || i >= nodes || k < 0 || k >= rangeCounts[i]) {
                return NONE;
            }
            if (which == 0) {
                return begins[firstRanges[i] + k];
            }
            return which == 1 ? ends[firstRanges[i] + k] : NONE;
        }
    }

    /** The numbered groups, counted from 1 on, and their names. */
    private static final class NumberedGroups {
        private final int[] lengths = new int[MOST_NUMBERED + 1];
        private final int[] letters = new int[(MOST_NUMBERED + 1) * LONGEST_NAME];
        private int howMany = 0;

        void clear() {
            howMany = 0;
        }

        boolean isFull() {
            return howMany >= MOST_NUMBERED;
        }

        /** Adds a group whose name stands in the pattern (length 0: it has none); answers its number. */
        int addGroup(Pattern pattern, int nameAt, int length) {
            if (isFull()) {
                return 0;
            }
            howMany++;
            lengths[howMany] = Math.min(length, LONGEST_NAME);
            for (int k = 0; k < lengths[howMany]; k++) {
                letters[howMany * LONGEST_NAME + k] = pattern.at(nameAt + k);
            }
            return howMany;
        }

        boolean hasName(Pattern pattern, int nameAt, int length) {
            for (int group = 1; group <= howMany; group++) {
                if (lengths[group] == length && isNamed(group, pattern, nameAt)) {
                    return true;
                }
            }
            return false;
        }

        private boolean isNamed(int group, Pattern pattern, int nameAt) {
            for (int k = 0; k < lengths[group]; k++) {
                if (letters[group * LONGEST_NAME + k] != pattern.at(nameAt + k)) {
                    return false;
                }
            }
            return true;
        }

        int nameByte(int group, int i) {
            if (group < 1 || group > howMany || i < 0 || i >= lengths[group]) {
                return NONE;
            }
            return letters[group * LONGEST_NAME + i];
        }
    }

    /** The groups around the place that is read; the whole pattern is the outermost of them. */
    private static final class OpenGroups {
        private final int[] places = new int[MOST_DEPTH + 1];
        private final int[] numbers = new int[MOST_DEPTH + 1];
        private final int[] flagsAround = new int[MOST_DEPTH + 1];
        private final int[] rows = new int[MOST_DEPTH + 1];
        private final int[] parts = new int[MOST_DEPTH + 1];
        private int depth = 0;

        void begin() {
            depth = 0;
            rows[0] = 0;
            parts[0] = 0;
        }

        void enter(int place, int number, int flags) {
            if (depth >= MOST_DEPTH) {
                return;
            }
            depth++;
            places[depth] = place;
            numbers[depth] = number;
            flagsAround[depth] = flags;
            rows[depth] = 0;
            parts[depth] = 0;
        }

        void leave() {
            if (depth > 0) {
                depth--;
            }
        }
    }

    /** Reads one escape, in a class or out of it. */
    private static final class EscapeReader {
        private final Pattern pattern;
        private int kind = CHARACTER;
        private int value = NONE;
        private int[] set = NO_SET;
        private boolean others = false;
        private int after = 0;

        EscapeReader(Pattern pattern) {
            this.pattern = pattern;
        }

        static boolean isSetLetter(int letter) {
            return letter == 'p' || letter == 'P' || setOf(letter).length > 0;
        }

        private static int[] setOf(int letter) {
            switch (letter) {
                case 'd': case 'D': return DIGITS;
                case 's': case 'S': return SPACES;
                case 'w': case 'W': return WORDS;
                default: return NO_SET;
            }
        }

        private static int[] propertyOf(int letter) {
            switch (letter) {
                case 'L': return PROPERTY_L;
                case 'N': return PROPERTY_N;
                case 'G': return PROPERTY_G;
                case 'Y': return PROPERTY_Y;
                default: return NO_SET;
            }
        }

        /** Reads the escape whose \ stands at place; the fault that it is, or 0. */
        int readEscape(int place) {
            int letter = pattern.at(place + 1);
            after = place + 2;
            switch (letter) {
                case 'A': return found(ASSERTION, AT_BEGINNING);
                case 'z': return found(ASSERTION, AT_END);
                case 'b': return found(ASSERTION, AT_WORD_EDGE);
                case 'B': return found(ASSERTION, OFF_WORD_EDGE);
                case 'C': return found(ONE_BYTE, NONE);
                case 'a': return found(CHARACTER, 7);
                case 'f': return found(CHARACTER, 12);
                case 'n': return found(CHARACTER, 10);
                case 'r': return found(CHARACTER, 13);
                case 't': return found(CHARACTER, 9);
                case 'v': return found(CHARACTER, 11);
                case 'x': return readNumbered(place);
                case 'd': case 's': case 'w': return foundSet(setOf(letter), false);
                case 'D': case 'S': case 'W': return foundSet(setOf(letter), true);
                case 'p': case 'P': return readProperty(place, letter == 'P');
                default: break;
            }
            if (letter < 0 || letter >= 128 || isWord(letter)) {
                return NO_SUCH_ESCAPE;
            }
            return found(CHARACTER, letter);
        }

        private int readNumbered(int place) {
            boolean braced = pattern.at(place + 2) == '{';
            int first = braced ? place + 3 : place + 2;
            int most = braced ? 6 : 2;
            int digits = 0;
            int c = 0;
            while (digits < most && hexadecimal(pattern.at(first + digits)) >= 0) {
                c = c * 16 + hexadecimal(pattern.at(first + digits));
                digits++;
            }
            boolean whole = braced ? digits > 0 && pattern.at(first + digits) == '}' : digits == 2;
            if (!whole || !isCharacter(c)) {
                return NO_SUCH_ESCAPE;
            }
            after = first + digits + (braced ? 1 : 0);
            return found(CHARACTER, c);
        }

        private int readProperty(int place, boolean turned) {
            int letter = pattern.at(place + 2);
            if (letter == NONE) {
                return NO_SUCH_ESCAPE;
            }
            if (propertyOf(letter).length == 0) {
                return NO_SUCH_SET;
            }
            after = place + 3;
            return foundSet(propertyOf(letter), turned);
        }

        private int found(int newKind, int newValue) {
            kind = newKind;
            value = newValue;
            return 0;
        }

        private int foundSet(int[] newSet, boolean turned) {
            kind = CLASS;
            value = NONE;
            set = newSet;
            others = turned;
            return 0;
        }
    }

    /** Reads one class into the set. */
    private static final class ClassReader {
        private final Pattern pattern;
        private final Mistake mistake;
        private final EscapeReader escapes;
        private final CharacterSet set;
        private int single = NONE;

        ClassReader(Pattern pattern, Mistake mistake, EscapeReader escapes, CharacterSet set) {
            this.pattern = pattern;
            this.mistake = mistake;
            this.escapes = escapes;
            this.set = set;
        }

        /** Reads the class whose [ stands at open; the place behind it, or NONE for a fault. */
        int readClass(int open, boolean alike) {
            boolean others = pattern.at(open + 1) == '^';
            int first = others ? open + 2 : open + 1;
            int place = first;
            set.clear();
            for (int turn = 0; turn < MOST_BYTES && place < pattern.length; turn++) {
                if (pattern.at(place) == ']' && place > first) {
                    set.finish(others);
                    return place + 1;
                }
                place = isSetItem(place) ? readSetItem(place) : readRange(place, alike);
                if (place == NONE) {
                    return NONE;
                }
            }
            return refused(ENDS_IN_CLASS, open);
        }

        private boolean isSetItem(int place) {
            int next = pattern.at(place + 1);
            switch (pattern.at(place)) {
                case '[': return next == ':';
                case '\\': return EscapeReader.isSetLetter(next);
                default: return false;
            }
        }

        private int readSetItem(int place) {
            if (pattern.at(place) == '\\') {
                return readSetEscape(place);
            }
            boolean others = pattern.at(place + 2) == '^';
            int nameAt = others ? place + 3 : place + 2;
            int[] named = setNamedAt(nameAt);
            if (named.length == 0) {
                return refused(NO_SUCH_SET, place);
            }
            set.addSet(named, others);
            return nameAt + 7;
        }

        private int readSetEscape(int place) {
            int wrong = escapes.readEscape(place);
            if (wrong != 0) {
                return refused(wrong, place);
            }
            set.addSet(escapes.set, escapes.others);
            return escapes.after;
        }

        // Every name has five letters, so that the place behind :] is seven further on.
        private int[] setNamedAt(int place) {
            if (pattern.hasText(place, "digit:]")) {
                return DIGITS;
            }
            if (pattern.hasText(place, "alpha:]")) {
                return NAMED_ALPHA;
            }
            if (pattern.hasText(place, "upper:]")) {
                return NAMED_UPPER;
            }
            if (pattern.hasText(place, "lower:]")) {
                return NAMED_LOWER;
            }
            if (pattern.hasText(place, "punct:]")) {
                return NAMED_PUNCT;
            }
            return pattern.hasText(place, "space:]") ? NAMED_SPACE : NO_SET;
        }

        /** Reads a character or a range of them. */
        private int readRange(int place, boolean alike) {
            int after = readSingle(place);
            if (after == NONE) {
                return NONE;
            }
            int from = single;
            int next = pattern.at(after + 1);
            if (pattern.at(after) == '-' && next != ']' && next != NONE) {
                if (isSetItem(after + 1)) {
                    return refused(BAD_RANGE, place);
                }
                after = readSingle(after + 1);
                if (after == NONE) {
                    return NONE;
                }
            }
            if (single < from) {
                return refused(BAD_RANGE, place);
            }
            if (alike) {
                set.addWithAlike(from, single);
            } else {
                set.add(from, single);
            }
            return after;
        }

        private int readSingle(int place) {
            if (pattern.at(place) != '\\') {
                single = pattern.characterAt(place);
                return single == NONE ? refused(ODD_BYTE, place) : place + widthOf(single);
            }
            int wrong = escapes.readEscape(place);
            if (wrong == 0 && escapes.kind != CHARACTER) {
                wrong = NO_SUCH_ESCAPE;
            }
            single = escapes.value;
            return wrong != 0 ? refused(wrong, place) : escapes.after;
        }

        private int refused(int number, int place) {
            mistake.tell(number, place);
            return NONE;
        }
    }

    /** Reads what opens a group, and (?flags) whole. */
    private static final class OpeningReader {
        private final Pattern pattern;
        private boolean numbered = false;
        private boolean flagsAlone = false;
        private int nameAt = 0;
        private int nameLength = 0;
        private int flags = 0;
        private int after = 0;

        OpeningReader(Pattern pattern) {
            this.pattern = pattern;
        }

        /** Reads from the ( at place on; false if nothing that is told stands there. */
        boolean readOpening(int place, int flagsNow) {
            numbered = true;
            flagsAlone = false;
            nameLength = 0;
            flags = flagsNow;
            after = place + 1;
            if (pattern.at(place + 1) != '?') {
                return true;
            }
            return pattern.at(place + 2) == 'P' ? readName(place + 3) : readFlags(place + 2);
        }

        private boolean readName(int place) {
            nameAt = place + 1;
            while (nameLength < LONGEST_NAME && isWord(pattern.at(nameAt + nameLength))) {
                nameLength++;
            }
            after = nameAt + nameLength + 1;
            return pattern.at(place) == '<' && nameLength > 0 && pattern.at(after - 1) == '>';
        }

        private boolean readFlags(int place) {
            numbered = false;
            after = place;
            flags |= takeFlags();
            if (pattern.at(after) == '-') {
                after++;
                int off = takeFlags();
                if (off == 0) {
                    return false;
                }
                flags &= ~off;
            }
            int last = pattern.at(after);
            after++;
            flagsAlone = last == ')';
            return flagsAlone || last == ':';
        }

        private int takeFlags() {
            int taken = 0;
            for (int turn = 0; turn < MOST_BYTES; turn++) {
                int flag = flagOf(pattern.at(after));
                if (flag == 0) {
                    break;
                }
                taken |= flag;
                after++;
            }
            return taken;
        }

        private static int flagOf(int letter) {
            switch (letter) {
                case 'i': return FLAG_I;
                case 'm': return FLAG_M;
                case 's': return FLAG_S;
                case 'U': return FLAG_U;
                default: return 0;
            }
        }
    }

    /** Reads one repeat. */
    private static final class RepeatReader {
        private final Pattern pattern;
        private int least = 0;
        private int most = NONE;
        private boolean marked = false;
        private int after = 0;
        private int number = 0;

        RepeatReader(Pattern pattern) {
            this.pattern = pattern;
        }

        /** Reads from the * + ? or { at place on; false if no repeat can be read from it. */
        boolean readRepeat(int place) {
            int sign = pattern.at(place);
            after = place + 1;
            if (sign == '{') {
                if (!readBounds()) {
                    return false;
                }
            } else {
                least = sign == '+' ? 1 : 0;
                most = sign == '?' ? 1 : NONE;
            }
            marked = pattern.at(after) == '?';
            if (marked) {
                after++;
            }
            return true;
        }

        private boolean readBounds() {
            if (!readNumber()) {
                return false;
            }
            least = number;
            most = number;
            if (pattern.at(after) == ',') {
                after++;
                most = readNumber() ? number : NONE;
            }
            after++;
            return pattern.at(after - 1) == '}';
        }

        private boolean readNumber() {
            int digits = 0;
            number = 0;
            while (digits < 3 && isDigit(pattern.at(after))) {
                number = number * 10 + pattern.at(after) - '0';
                digits++;
                after++;
            }
            return digits > 0;
        }

        boolean hasBadTimes() {
            return least > MOST_TIMES || most > MOST_TIMES || most != NONE && least > most;
        }

        /** How large the repeat of something of a size is. */
        int sizeOver(int size) {
            if (most != NONE) {
                return most * size + most - least;
            }
            return least * size + size + 1;
        }
    }

    /** Reads the whole pattern, a piece at a time, into the tree. */
    private static final class TreeReader {
        private final Pattern pattern;
        private final Mistake mistake;
        private final Tree tree;
        private final NumberedGroups groups;
        private final OpenGroups open = new OpenGroups();
        private final CharacterSet set = new CharacterSet();
        private final EscapeReader escapes;
        private final ClassReader classes;
        private final OpeningReader openings;
        private final RepeatReader repeats;
        private int place = 0;
        private int flags = 0;
        private boolean repeatable = false;

        TreeReader(Pattern pattern, Mistake mistake, Tree tree, NumberedGroups groups) {
            this.pattern = pattern;
            this.mistake = mistake;
            this.tree = tree;
            this.groups = groups;
            this.escapes = new EscapeReader(pattern);
            this.classes = new ClassReader(pattern, mistake, escapes, set);
            this.openings = new OpeningReader(pattern);
            this.repeats = new RepeatReader(pattern);
        }

        void begin(int newFlags) {
            mistake.clear();
            tree.clear();
            groups.clear();
            open.begin();
            place = 0;
            flags = newFlags;
            repeatable = false;
        }

        boolean hasMore() {
            return mistake.number == 0 && place < pattern.length;
        }

        void end() {
            if (open.depth > 0) {
                // Met last of all: a fault that was told before stays.
                mistake.tell(ENDS_IN_GROUP, open.places[open.depth]);
            }
            if (mistake.number == 0) {
                endAlternatives();
            }
        }

        void readNext() {
            switch (pattern.at(place)) {
                case '|': endRow(); place++; break;
                case '(': openGroup(); break;
                case ')': closeGroup(); break;
                case '[': addClassPart(classes.readClass(place, isOn(FLAG_I))); break;
                case '\\': readEscapePart(); break;
                case '.': readAny(); break;
                case '^': addAssertion(isOn(FLAG_M) ? AT_LINE_BEGINNING : AT_BEGINNING); break;
                case '$': addAssertion(isOn(FLAG_M) ? AT_LINE_END : AT_END); break;
                case '*': case '+': case '?': case '{':
                    if (repeats.readRepeat(place)) {
                        addRepeat();
                    } else {
                        readCharacter();
                    }
                    break;
                default: readCharacter(); break;
            }
        }

        private boolean isOn(int flag) {
            return (flags & flag) != 0;
        }

        private void partDone(int after, boolean mayRepeat) {
            open.parts[open.depth]++;
            repeatable = mayRepeat;
            place = after;
        }

        private void endRow() {
            int parts = open.parts[open.depth];
            tree.addOver(parts, ROW, parts, NONE, tree.waitingSize(parts));
            open.parts[open.depth] = 0;
            open.rows[open.depth]++;
            repeatable = false;
        }

        private void endAlternatives() {
            endRow();
            int rows = open.rows[open.depth];
            if (rows > 1) {
                tree.addOver(rows, ALTERNATIVES, rows, NONE, tree.waitingSize(rows) + rows - 1);
            }
        }

        // At one ( the least fault counts: 10, 11, 12, 13 are looked at in this order.
        private void openGroup() {
            if (!openings.readOpening(place, flags)) {
                mistake.tell(NO_SUCH_GROUP, place);
            } else if (openings.flagsAlone) {
                flags = openings.flags;
                tree.addLeaf(ROW, 0, 0);
                partDone(openings.after, false);
            } else if (openings.nameLength > 0
                    && groups.hasName(pattern, openings.nameAt, openings.nameLength)) {
                mistake.tell(NAME_TAKEN, place);
            } else if (open.depth >= MOST_DEPTH) {
                mistake.tell(TOO_DEEP, place);
            } else if (openings.numbered && groups.isFull()) {
                mistake.tell(TOO_MANY_NUMBERED, place);
            } else {
                enterGroup();
            }
        }

        private void enterGroup() {
            int number = 0;
            if (openings.numbered) {
                number = groups.addGroup(pattern, openings.nameAt, openings.nameLength);
            }
            open.enter(place, number, flags);
            flags = openings.flags;
            repeatable = false;
            place = openings.after;
        }

        private void closeGroup() {
            if (open.depth == 0) {
                mistake.tell(CLOSES_NOTHING, place);
                return;
            }
            endAlternatives();
            int number = open.numbers[open.depth];
            int size = tree.waitingSize(1) + (number > 0 ? 2 : 0);
            tree.addOver(1, GROUP, number, NONE, size);
            flags = open.flagsAround[open.depth];
            open.leave();
            partDone(place + 1, true);
        }

        private void addClassPart(int after) {
            if (after != NONE) {
                tree.addClass(set);
                partDone(after, true);
            }
        }

        private void readEscapePart() {
            int wrong = escapes.readEscape(place);
            if (wrong != 0) {
                mistake.tell(wrong, place);
                return;
            }
            switch (escapes.kind) {
                case CHARACTER: addCharacter(escapes.value); break;
                case CLASS: addFixedSet(escapes.set, escapes.others); break;
                default: tree.addLeaf(escapes.kind, escapes.value, 1); break;
            }
            partDone(escapes.after, true);
        }

        private void readAny() {
            addFixedSet(isOn(FLAG_S) ? NO_SET : LINE_FEED, true);
            partDone(place + 1, true);
        }

        private void addFixedSet(int[] spans, boolean others) {
            set.clear();
            set.addSet(spans, others);
            set.finish(false);
            tree.addClass(set);
        }

        private void addAssertion(int value) {
            tree.addLeaf(ASSERTION, value, 1);
            partDone(place + 1, true);
        }

        private void addRepeat() {
            if (!repeatable) {
                mistake.tell(REPEATS_NOTHING, place);
                return;
            }
            if (repeats.hasBadTimes()) {
                mistake.tell(BAD_TIMES, place);
                return;
            }
            int kind = repeats.marked != isOn(FLAG_U) ? LAZY : GREEDY;
            int size = repeats.sizeOver(tree.waitingSize(1));
            tree.addOver(1, kind, repeats.least, repeats.most, size);
            repeatable = false;
            place = repeats.after;
        }

        private void readCharacter() {
            int c = pattern.characterAt(place);
            if (c == NONE) {
                mistake.tell(ODD_BYTE, place);
                return;
            }
            addCharacter(c);
            partDone(place + widthOf(c), true);
        }

        private void addCharacter(int c) {
            set.clear();
            if (isOn(FLAG_I)) {
                set.addWithAlike(c, c);
            } else {
                set.add(c, c);
            }
            if (set.isOneCharacter()) {
                tree.addLeaf(CHARACTER, c, 1);
            } else {
                tree.addClass(set);
            }
        }
    }
}
