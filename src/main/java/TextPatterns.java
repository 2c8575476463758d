/**
 * Patterns over bytes: items that repeat greedily, lazily or perhaps, captures, places, what a
 * capture had, balanced pairs, borders; the first match, the next ones, all of them replaced.
 */
public final class TextPatterns {
    public static final int BAD = -1;
    public static final int WRONG = -2;
    public static final int FULL = -3;
    public static final int LONG = -4;

    private static final int NO = 0;
    private static final int YES = 1;
    private static final int NONE = -1;

    private static final int MOST_TEXT = 4096;
    private static final int MOST_PATTERN = 512;
    private static final int MOST_RESULT = 8192;
    private static final int MOST_CAPTURES = 32;
    private static final int MOST_LOOKS = 100000;

    // Each item takes at least one byte of the pattern; one more stands for the pattern's end.
    private static final int MOST_ITEMS = MOST_PATTERN + 1;

    private static final int BROKEN = 0;
    private static final int DONE = 1;
    private static final int TAKE = 2;
    private static final int LAZY = 3;
    private static final int OPEN = 4;
    private static final int CLOSE = 5;
    private static final int PLACE = 6;
    private static final int SAME = 7;
    private static final int PAIR = 8;
    private static final int BORDER = 9;
    private static final int TEXT_END = 10;

    private static final int WORDS = 4;
    private static final int WORD_BITS = 64;

    // Threes of a class's letter, a first byte and a last byte; a class is all of its spans.
    private static final int[] CLASS_SPANS = {
        'a', 'A', 'Z', 'a', 'a', 'z',
        'd', '0', '9',
        'l', 'a', 'z',
        'u', 'A', 'Z',
        'w', '0', '9', 'w', 'A', 'Z', 'w', 'a', 'z',
        's', 9, 13, 's', 32, 32,
        'x', '0', '9', 'x', 'A', 'F', 'x', 'a', 'f',
        'g', 33, 126,
        'p', 33, 47, 'p', 58, 64, 'p', 91, 96, 'p', 123, 126,
        'c', 0, 31, 'c', 127, 127
    };

    private final Row text = new Row(MOST_TEXT);
    private final Row pattern = new Row(MOST_PATTERN);
    private final Row replacement = new Row(MOST_PATTERN);
    private final Row output = new Row(MOST_RESULT);
    private final Items items = new Items();
    private final Matcher matcher = new Matcher();
    // single() has a set of its own, so that it leaves the match's items alone.
    private final Sets lone = new Sets(1);

    private boolean matched;
    private int matchFirst;
    private int matchLast;

    private int nextPlace;
    private int nextEnd;
    private boolean nextOver;

    public TextPatterns() {
        nextEnd = NONE;
    }

    public int type(int row, long bytes, int n) {
        Row target = rowOf(row);
        if (target == null || n < 1 || n > 8) {
            return BAD;
        }
        if (target.room() < n) {
            return FULL;
        }
        for (int i = n - 1; i >= 0; i--) {
            target.add((int) (bytes >>> (8 * i)) & 255);
        }
        matched = false;
        return target.length();
    }

    public int clear(int row) {
        Row target = rowOf(row);
        if (target == null) {
            return BAD;
        }
        int had = target.length();
        target.empty();
        matched = false;
        return had;
    }

    public int find(int from) {
        matcher.forgetLooks();
        if (from < 0 || from > text.length()) {
            return BAD;
        }
        boolean fixed = isFixed();
        items.read(pattern, fixed ? 1 : 0);
        return search(from, fixed ? from : text.length(), NONE);
    }

    public void begin() {
        nextPlace = 0;
        nextEnd = NONE;
        nextOver = false;
    }

    public int next() {
        matcher.forgetLooks();
        matched = false;
        if (nextOver || nextPlace > text.length()) {
            return NO;
        }
        items.read(pattern, 0);
        int answer = search(nextPlace, text.length(), nextEnd);
        if (answer == YES) {
            nextPlace = matchLast;
            nextEnd = matchLast;
        } else {
            nextOver = true;
        }
        return answer;
    }

    public int replace(int most) {
        matcher.forgetLooks();
        if (most < 0) {
            return BAD;
        }
        matched = false;
        output.empty();
        boolean fixed = isFixed();
        items.read(pattern, fixed ? 1 : 0);
        int answer = replaceMatches(most, fixed);
        if (answer < 0) {
            output.empty();
        }
        return answer;
    }

    public int looks() {
        return matcher.looksMade();
    }

    public int first() {
        return matched ? matchFirst : BAD;
    }

    public int last() {
        return matched ? matchLast : BAD;
    }

    public int captures() {
        return matched ? items.captureCount() : BAD;
    }

    public int capture(int k, int what) {
        if (!matched || k < 0 || k >= items.captureCount()) {
            return BAD;
        }
        if (what == 0) {
            return matcher.startOf(k);
        }
        return what == 1 ? matcher.lengthOf(k) : BAD;
    }

    public int size() {
        return output.length();
    }

    public int result(int i) {
        int b = output.at(i);
        return b == NONE ? BAD : b;
    }

    public int single(int b) {
        if (b < 0 || b > 255) {
            return BAD;
        }
        int end = lone.readSingle(0, pattern, 0);
        if (end == NONE || end != pattern.length()) {
            return WRONG;
        }
        return lone.holds(0, b) ? YES : NO;
    }

    private Row rowOf(int row) {
        switch (row) {
            case 0: return text;
            case 1: return pattern;
            case 2: return replacement;
            default: return null;
        }
    }

    private boolean isFixed() {
        return pattern.at(0) == '^';
    }

    /** Tries the places from .. to; a match that ends at the place spent does not count. */
    private int search(int from, int to, int spent) {
        matched = false;
        for (int place = from; place <= to; place++) {
            int answer = matcher.matchAt(items, text, place);
            if (answer < 0) {
                return answer;
            }
            if (answer == YES && matcher.end() != spent) {
                matched = true;
                matchFirst = place;
                matchLast = matcher.end();
                return YES;
            }
        }
        return NO;
    }

    private int replaceMatches(int most, boolean fixed) {
        int place = 0;
        int spent = NONE;
        int count = 0;
        // A place is come to twice at most: once more behind an empty match there.
        int mostTries = fixed ? 1 : 2 * (text.length() + 1);
        for (int n = 0; n < mostTries && count < most && place <= text.length(); n++) {
            int answer = matcher.matchAt(items, text, place);
            if (answer < 0) {
                return answer;
            }
            if (answer == YES && matcher.end() != spent) {
                answer = addReplacement(place, matcher.end());
                spent = matcher.end();
                place = spent;
                count++;
            } else {
                answer = addText(place, place + 1);
                place++;
            }
            if (answer < 0) {
                return answer;
            }
        }
        int answer = addText(place, text.length());
        return answer < 0 ? answer : count;
    }

    private int addReplacement(int from, int to) {
        int answer = YES;
        for (int i = 0; i < replacement.length() && answer == YES; i++) {
            int b = replacement.at(i);
            if (b == '%') {
                i++;
                answer = addMarked(replacement.at(i), from, to);
            } else {
                answer = addByte(b);
            }
        }
        return answer;
    }

    /** Adds what % and the byte mark stand for, in a match from .. to. */
    private int addMarked(int mark, int from, int to) {
        if (mark == '%') {
            return addByte(mark);
        }
        if (mark == '0' || mark == '1' && items.captureCount() == 0) {
            return addText(from, to);
        }
        int k = mark - '1';
        if (k < 0 || k > 8 || k >= items.captureCount()) {
            return WRONG;
        }
        int start = matcher.startOf(k);
        int length = matcher.lengthOf(k);
        return length < 0 ? addNumber(start + 1) : addText(start, start + length);
    }

    /** Adds a number of 1 .. 9999; a place's is 4097 at most. */
    private int addNumber(int number) {
        int answer = YES;
        for (int unit = 1000; unit > 0 && answer == YES; unit /= 10) {
            if (number >= unit) {
                answer = addByte('0' + number / unit % 10);
            }
        }
        return answer;
    }

    private int addText(int from, int to) {
        int answer = YES;
        for (int i = from; i < to && i < text.length() && answer == YES; i++) {
            answer = addByte(text.at(i));
        }
        return answer;
    }

    private int addByte(int b) {
        if (output.room() < 1) {
            return FULL;
        }
        output.add(b);
        return YES;
    }

    /** Bytes, up to a fixed number of them. */
    private static final class Row {
        private final byte[] bytes;
        private int length;

        Row(int most) {
            bytes = new byte[Math.max(most, 0)];
        }

        int length() {
            return length;
        }

        int room() {
            return bytes.length - length;
        }

        void empty() {
            length = 0;
        }

        void add(int b) {
            if (length < bytes.length) {
                bytes[length] = (byte) b;
                length++;
            }
        }

        int at(int i) {
            return i >= 0 && i < length ? bytes[i] & 255 : NONE;
        }
    }

    /** Sets of bytes, a bit for each byte, and how a pattern's singles are read into them. */
    private static final class Sets {
        private final long[] words;

        Sets(int most) {
            words = new long[WORDS * Math.max(most, 0)];
        }

        boolean holds(int set, int b) {
            int index = WORDS * set + b / WORD_BITS;
            if (b < 0 || b > 255 || index < 0 || index >= words.length) {
                return false;
            }
            return ((words[index] >>> (b % WORD_BITS)) & 1L) != 0;
        }

        /** Reads the single that begins at from: the place behind it, or NONE if there is none. */
        int readSingle(int set, Row pattern, int from) {
            empty(set);
            int b = pattern.at(from);
            if (b == NONE) {
                return NONE;
            }
            if (b == '[') {
                return readSet(set, pattern, from + 1);
            }
            if (b == '%') {
                return readNamed(set, pattern.at(from + 1), from + 2);
            }
            addSpan(set, b == '.' ? 0 : b, b == '.' ? 255 : b);
            return from + 1;
        }

        private int readNamed(int set, int name, int behind) {
            if (name == NONE) {
                return NONE;
            }
            addNamed(set, name);
            return behind;
        }

        private int readSet(int set, Row pattern, int from) {
            boolean others = pattern.at(from) == '^';
            int start = others ? from + 1 : from;
            int close = closingOf(pattern, start);
            if (close == NONE) {
                return NONE;
            }
            for (int i = start; i < close; i++) {
                int b = pattern.at(i);
                if (b == '%' && i + 1 < close) {
                    i++;
                    addNamed(set, pattern.at(i));
                } else if (pattern.at(i + 1) == '-' && i + 2 < close) {
                    i += 2;
                    addSpan(set, b, pattern.at(i));
                } else {
                    addSpan(set, b, b);
                }
            }
            if (others) {
                turn(set);
            }
            return close + 1;
        }

        private static int closingOf(Row pattern, int start) {
            for (int i = start; i < pattern.length(); i++) {
                int b = pattern.at(i);
                if (b == '%') {
                    i++;
                } else if (b == ']' && i > start) {
                    return i;
                }
            }
            return NONE;
        }

        /** Adds the class of that name, or the byte itself if it names none. */
        private void addNamed(int set, int name) {
            boolean great = name >= 'A' && name <= 'Z';
            int letter = great ? name - 'A' + 'a' : name;
            for (int w = 0; w < WORDS; w++) {
                boolean isClass = false;
                long bits = 0;
                for (int i = 0; i + 2 < CLASS_SPANS.length; i += 3) {
                    if (CLASS_SPANS[i] == letter) {
                        isClass = true;
                        bits |= spanBits(CLASS_SPANS[i + 1], CLASS_SPANS[i + 2], w);
                    }
                }
                if (!isClass) {
                    bits = spanBits(name, name, w);
                } else if (great) {
                    bits = ~bits;
                }
                addBits(set, w, bits);
            }
        }

        private void addSpan(int set, int from, int to) {
            for (int w = 0; w < WORDS; w++) {
                addBits(set, w, spanBits(from, to, w));
            }
        }

        /** The bits of the bytes from .. to that lie in that word; none if from is above to. */
        private static long spanBits(int from, int to, int word) {
            int base = word * WORD_BITS;
            int low = from > base ? from - base : 0;
            int high = to < base + WORD_BITS ? to - base : WORD_BITS - 1;
            if (low > high) {
                return 0;
            }
            return (-1L >>> (WORD_BITS - 1 - high + low)) << low;
        }

        private void addBits(int set, int word, long bits) {
            int index = WORDS * set + word;
            if (index >= 0 && index < words.length) {
                words[index] |= bits;
            }
        }

        private void empty(int set) {
            for (int w = 0; w < WORDS; w++) {
                int index = WORDS * set + w;
                if (index >= 0 && index < words.length) {
                    words[index] = 0;
                }
            }
        }

        private void turn(int set) {
            for (int w = 0; w < WORDS; w++) {
                int index = WORDS * set + w;
                if (index >= 0 && index < words.length) {
                    words[index] = ~words[index];
                }
            }
        }
    }

    /**
     * A pattern as a row of items. Which captures are there, open or closed at an item hangs on the
     * items before it alone, never on the text: so what is WRONG is found here already, and stands
     * as the BROKEN item that matching may come to.
     */
    private static final class Items {
        private final int[] kinds = new int[MOST_ITEMS];
        // TAKE: the least and the most bytes; OPEN, CLOSE, PLACE, SAME: the capture; PAIR: x and y.
        private final int[] ones = new int[MOST_ITEMS];
        private final int[] twos = new int[MOST_ITEMS];
        private final Sets sets = new Sets(MOST_ITEMS);
        private final int[] states = new int[MOST_CAPTURES];
        private int count;
        private int captureCount;

        int captureCount() {
            return captureCount;
        }

        int kind(int item) {
            return item >= 0 && item < count && item < kinds.length ? kinds[item] : BROKEN;
        }

        int one(int item) {
            return item >= 0 && item < count && item < ones.length ? ones[item] : 0;
        }

        int two(int item) {
            return item >= 0 && item < count && item < twos.length ? twos[item] : 0;
        }

        void read(Row pattern, int from) {
            count = 0;
            captureCount = 0;
            int place = from;
            for (int n = 0; n < MOST_PATTERN && place != NONE && place < pattern.length(); n++) {
                int kind = kindAt(pattern, place);
                place = kind == TAKE
                    ? readRepeated(pattern, place)
                    : readSpecial(kind, pattern, place);
            }
            boolean whole = place != NONE && latestOpen() == NONE;
            add(whole ? DONE : BROKEN, 0, 0);
        }

        private static int kindAt(Row pattern, int place) {
            int b = pattern.at(place);
            int behind = pattern.at(place + 1);
            if (b == '(') {
                return behind == ')' ? PLACE : OPEN;
            }
            if (b == ')') {
                return CLOSE;
            }
            if (b == '$' && behind == NONE) {
                return TEXT_END;
            }
            if (b != '%') {
                return TAKE;
            }
            if (behind == 'b') {
                return PAIR;
            }
            if (behind == 'f') {
                return BORDER;
            }
            return behind >= '1' && behind <= '9' ? SAME : TAKE;
        }

        private int readRepeated(Row pattern, int from) {
            int end = sets.readSingle(count, pattern, from);
            if (end == NONE) {
                return NONE;
            }
            switch (pattern.at(end)) {
                case '?':
                    add(TAKE, 0, 1);
                    return end + 1;
                case '*':
                    add(TAKE, 0, MOST_TEXT);
                    return end + 1;
                case '+':
                    add(TAKE, 1, MOST_TEXT);
                    return end + 1;
                case '-':
                    add(LAZY, 0, 0);
                    return end + 1;
                default:
                    add(TAKE, 1, 1);
                    return end;
            }
        }

        private int readSpecial(int kind, Row pattern, int from) {
            switch (kind) {
                case OPEN:
                    return readOpening(OPEN, from + 1);
                case PLACE:
                    return readOpening(PLACE, from + 2);
                case CLOSE:
                    return readClosing(from + 1);
                case SAME:
                    return readSame(pattern.at(from + 1) - '1', from + 2);
                case PAIR:
                    return readPair(pattern, from + 2);
                case BORDER:
                    return readBorder(pattern, from + 2);
                default:
                    add(TEXT_END, 0, 0);
                    return from + 1;
            }
        }

        private int readOpening(int kind, int behind) {
            if (captureCount >= states.length) {
                return NONE;
            }
            states[captureCount] = kind;
            add(kind, captureCount, 0);
            captureCount++;
            return behind;
        }

        private int readClosing(int behind) {
            int k = latestOpen();
            if (k < 0 || k >= states.length) {
                return NONE;
            }
            states[k] = CLOSE;
            add(CLOSE, k, 0);
            return behind;
        }

        private int latestOpen() {
            for (int k = Math.min(captureCount, states.length) - 1; k >= 0; k--) {
                if (states[k] == OPEN) {
                    return k;
                }
            }
            return NONE;
        }

        private int readSame(int k, int behind) {
            if (k < 0 || k >= captureCount || k >= states.length || states[k] != CLOSE) {
                return NONE;
            }
            add(SAME, k, 0);
            return behind;
        }

        private int readPair(Row pattern, int from) {
            if (pattern.at(from) == NONE || pattern.at(from + 1) == NONE) {
                return NONE;
            }
            add(PAIR, pattern.at(from), pattern.at(from + 1));
            return from + 2;
        }

        private int readBorder(Row pattern, int from) {
            if (pattern.at(from) != '[') {
                return NONE;
            }
            int end = sets.readSingle(count, pattern, from);
            if (end != NONE) {
                add(BORDER, 0, 0);
            }
            return end;
        }

        private void add(int kind, int one, int two) {
            if (count < kinds.length && count < ones.length && count < twos.length) {
                kinds[count] = kind;
                ones[count] = one;
                twos[count] = two;
                count++;
            }
        }
    }

    /**
     * Matches items at a place. The ways that are left are kept in rows, one choice an item at
     * most; captures need no undoing, since a way that goes back before one comes through it again.
     */
    private static final class Matcher {
        private final int[] choiceItems = new int[MOST_ITEMS];
        private final int[] choiceLeast = new int[MOST_ITEMS];
        private final int[] choicePlaces = new int[MOST_ITEMS];
        private final int[] starts = new int[MOST_CAPTURES];
        private final int[] lengths = new int[MOST_CAPTURES];
        private int choices;
        private int item;
        private int place;
        private int looks;

        void forgetLooks() {
            looks = 0;
        }

        int looksMade() {
            return looks;
        }

        int end() {
            return place;
        }

        int startOf(int k) {
            return k >= 0 && k < starts.length ? starts[k] : NONE;
        }

        int lengthOf(int k) {
            return k >= 0 && k < lengths.length ? lengths[k] : NONE;
        }

        /** YES and end() is the match's, NO, WRONG or LONG. */
        int matchAt(Items items, Row text, int from) {
            choices = 0;
            item = 0;
            place = from;
            // Each way but the first has been paid for with a look of its own.
            for (int way = 0; way <= MOST_LOOKS; way++) {
                int answer = goOn(items, text);
                if (answer != NO) {
                    return answer;
                }
                answer = tryNextWay(items, text);
                if (answer != YES) {
                    return answer;
                }
            }
            return LONG;
        }

        private int goOn(Items items, Row text) {
            for (int n = 0; n < MOST_ITEMS; n++) {
                int kind = items.kind(item);
                if (kind == DONE) {
                    return YES;
                }
                int answer = kind == TAKE || kind == LAZY
                    ? takeRepeated(items, text, kind)
                    : takeSpecial(items, text, kind);
                if (answer != YES) {
                    return answer;
                }
                item++;
            }
            return WRONG;
        }

        private int takeRepeated(Items items, Row text, int kind) {
            if (kind == LAZY) {
                addChoice(place, place);
                return YES;
            }
            int most = items.two(item);
            int end = place;
            int answer = YES;
            for (int n = 0; n < most && answer == YES; n++) {
                answer = look(items, text, item, end);
                if (answer == YES) {
                    end++;
                }
            }
            if (answer == LONG) {
                return LONG;
            }
            int least = place + items.one(item);
            if (end < least) {
                return NO;
            }
            if (end > least) {
                addChoice(least, end);
            }
            place = end;
            return YES;
        }

        private int takeSpecial(Items items, Row text, int kind) {
            switch (kind) {
                case OPEN:
                case PLACE:
                    setStart(items.one(item));
                    return YES;
                case CLOSE:
                    setLength(items.one(item));
                    return YES;
                case SAME:
                    return takeSame(text, startOf(items.one(item)), lengthOf(items.one(item)));
                case PAIR:
                    return takePair(text, items.one(item), items.two(item));
                case BORDER:
                    return lookAtBorder(items, text);
                case TEXT_END:
                    return place == text.length() ? YES : NO;
                default:
                    return WRONG;
            }
        }

        /** A place's capture keeps the length NONE; any other gets its own when it closes. */
        private void setStart(int k) {
            if (k >= 0 && k < starts.length && k < lengths.length) {
                starts[k] = place;
                lengths[k] = NONE;
            }
        }

        private void setLength(int k) {
            if (k >= 0 && k < starts.length && k < lengths.length) {
                lengths[k] = place - starts[k];
            }
        }

        private int takeSame(Row text, int start, int length) {
            if (text.length() - place < length) {
                return NO;
            }
            for (int i = 0; i < length; i++) {
                if (!mayLook()) {
                    return LONG;
                }
                if (text.at(place + i) != text.at(start + i)) {
                    return NO;
                }
            }
            place += length;
            return YES;
        }

        private int takePair(Row text, int opening, int closing) {
            int begun = text.at(place);
            if (begun == NONE) {
                return NO;
            }
            if (!mayLook()) {
                return LONG;
            }
            // Where x is y, each one closes: so the closing byte is asked for first.
            int depth = begun == opening ? 1 : 0;
            for (int i = place + 1; i < text.length() && depth > 0; i++) {
                if (!mayLook()) {
                    return LONG;
                }
                int b = text.at(i);
                if (b == closing) {
                    depth--;
                } else if (b == opening) {
                    depth++;
                }
                if (depth == 0) {
                    place = i + 1;
                    return YES;
                }
            }
            return NO;
        }

        private int lookAtBorder(Items items, Row text) {
            if (!mayLook()) {
                return LONG;
            }
            int before = Math.max(text.at(place - 1), 0);
            int here = Math.max(text.at(place), 0);
            boolean border = !items.sets.holds(item, before) && items.sets.holds(item, here);
            return border ? YES : NO;
        }

        private int look(Items items, Row text, int which, int at) {
            int b = text.at(at);
            if (b == NONE) {
                return NO;
            }
            if (!mayLook()) {
                return LONG;
            }
            return items.sets.holds(which, b) ? YES : NO;
        }

        /** Counts one look more, if the call may make it. */
        private boolean mayLook() {
            if (looks >= MOST_LOOKS) {
                return false;
            }
            looks++;
            return true;
        }

        private void addChoice(int least, int end) {
            if (choices < choiceItems.length
                && choices < choiceLeast.length
                && choices < choicePlaces.length) {
                choiceItems[choices] = item;
                choiceLeast[choices] = least;
                choicePlaces[choices] = end;
                choices++;
            }
        }

        /** Goes back to the latest choice that has one more way, and takes that. */
        private int tryNextWay(Items items, Row text) {
            for (int c = choices - 1; c >= 0; c--) {
                int answer = changeChoice(items, text, c);
                if (answer != NO) {
                    choices = c + 1;
                    return answer;
                }
            }
            return NO;
        }

        private int changeChoice(Items items, Row text, int c) {
            if (c < 0
                || c >= choiceItems.length
                || c >= choiceLeast.length
                || c >= choicePlaces.length) {
                return NO;
            }
            int chosen = choiceItems[c];
            int end = choicePlaces[c];
            if (items.kind(chosen) == LAZY) {
                int answer = look(items, text, chosen, end);
                if (answer != YES) {
                    return answer;
                }
                end++;
            } else if (end > choiceLeast[c]) {
                end--;
            } else {
                return NO;
            }
            choicePlaces[c] = end;
            place = end;
            item = chosen + 1;
            return YES;
        }
    }
}
