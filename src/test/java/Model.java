import java.util.ArrayList;
import java.util.List;

/**
 * The document once more, as plainly as it can be told and in another way than the class: the
 * pattern is read anew at each step, what is behind an item is a call within a call, and what is
 * wrong is found while matching.
 */
final class Model {
    private static final int MOST_LOOKS = 100000;

    /** WRONG, FULL or LONG, thrown out of whatever is under way. */
    private static final class Stop extends RuntimeException {
        private static final long serialVersionUID = 1L;
        final int answer;

        Stop(int answer) {
            super(null, null, false, false);
            this.answer = answer;
        }
    }

    private static final class Capture {
        final int from;
        int to;
        boolean open = true;
        boolean place;

        Capture(int from) {
            this.from = from;
        }
    }

    private final StringBuilder[] rows = {
        new StringBuilder(), new StringBuilder(), new StringBuilder()
    };
    private final List<Capture> captures = new ArrayList<>();
    private String result = "";
    private String t = "";
    private String p = "";
    private int looks;
    private boolean matched;
    private int first;
    private int last;
    private int place;
    private int spent = -1;
    private boolean over;

    int type(int row, long bytes, int n) {
        if (n < 1 || n > 8 || row < 0 || row > 2) {
            return -1;
        }
        if (rows[row].length() + n > (row == 0 ? 4096 : 512)) {
            return -3;
        }
        matched = false;
        for (int i = n - 1; i >= 0; i--) {
            rows[row].append((char) (bytes >> 8 * i & 0xff));
        }
        return rows[row].length();
    }

    int clear(int row) {
        if (row < 0 || row > 2) {
            return -1;
        }
        matched = false;
        int had = rows[row].length();
        rows[row].setLength(0);
        return had;
    }

    int find(int from) {
        startCall();
        if (from < 0 || from > t.length()) {
            return -1;
        }
        boolean fixed = p.startsWith("^");
        return search(from, fixed ? from : t.length(), fixed ? 1 : 0, -1);
    }

    void begin() {
        place = 0;
        spent = -1;
        over = false;
    }

    int next() {
        startCall();
        matched = false;
        if (over || place > t.length()) {
            return 0;
        }
        int answer = search(place, t.length(), 0, spent);
        if (answer == 1) {
            place = last;
            spent = last;
        } else {
            over = true;
        }
        return answer;
    }

    int replace(int most) {
        startCall();
        if (most < 0) {
            return -1;
        }
        matched = false;
        result = "";
        StringBuilder made = new StringBuilder();
        try {
            int count = replaceInto(made, most);
            result = made.toString();
            return count;
        } catch (Stop stop) {
            return stop.answer;
        }
    }

    int looks() {
        return looks;
    }

    int first() {
        return matched ? first : -1;
    }

    int last() {
        return matched ? last : -1;
    }

    int captures() {
        return matched ? captures.size() : -1;
    }

    int capture(int k, int what) {
        if (!matched || k < 0 || k >= captures.size() || what < 0 || what > 1) {
            return -1;
        }
        Capture c = captures.get(k);
        return what == 0 ? c.from : c.place ? -1 : c.to - c.from;
    }

    int size() {
        return result.length();
    }

    int result(int i) {
        return i < 0 || i >= result.length() ? -1 : result.charAt(i);
    }

    int single(int b) {
        if (b < 0 || b > 255) {
            return -1;
        }
        p = rows[1].toString();
        try {
            if (p.isEmpty() || singleEnd(0) != p.length()) {
                return -2;
            }
            return inSingle(0, p.length(), b) ? 1 : 0;
        } catch (Stop stop) {
            return stop.answer;
        }
    }

    private void startCall() {
        looks = 0;
        t = rows[0].toString();
        p = rows[1].toString();
    }

    private int search(int from, int to, int start, int notEnd) {
        matched = false;
        try {
            for (int s = from; s <= to; s++) {
                captures.clear();
                int e = match(s, start);
                if (e >= 0 && e != notEnd) {
                    matched = true;
                    first = s;
                    last = e;
                    return 1;
                }
            }
            return 0;
        } catch (Stop stop) {
            return stop.answer;
        }
    }

    private int replaceInto(StringBuilder made, int most) {
        boolean fixed = p.startsWith("^");
        int count = 0;
        int s = 0;
        int notEnd = -1;
        while (count < most) {
            captures.clear();
            int e = match(s, fixed ? 1 : 0);
            if (e >= 0 && e != notEnd) {
                count++;
                addReplacement(made, s, e);
                s = e;
                notEnd = e;
            } else if (s < t.length()) {
                add(made, t.substring(s, s + 1));
                s++;
            } else {
                break;
            }
            if (fixed) {
                break;
            }
        }
        add(made, t.substring(s));
        return count;
    }

    private void add(StringBuilder made, String s) {
        made.append(s);
        if (made.length() > 8192) {
            throw new Stop(-3);
        }
    }

    private void addReplacement(StringBuilder made, int s, int e) {
        String by = rows[2].toString();
        for (int i = 0; i < by.length(); i++) {
            char c = by.charAt(i);
            if (c != '%') {
                add(made, "" + c);
                continue;
            }
            i++;
            char mark = i < by.length() ? by.charAt(i) : 'x';
            if (mark == '%') {
                add(made, "%");
            } else if (mark == '0' || mark == '1' && captures.isEmpty()) {
                add(made, t.substring(s, e));
            } else if (mark >= '1' && mark <= '9' && mark - '1' < captures.size()) {
                Capture had = captures.get(mark - '1');
                add(made, had.place ? "" + (had.from + 1) : t.substring(had.from, had.to));
            } else {
                throw new Stop(-2);
            }
        }
    }

    private void look() {
        if (looks == MOST_LOOKS) {
            throw new Stop(-4);
        }
        looks++;
    }

    private int at(int i) {
        return i < p.length() ? p.charAt(i) : -1;
    }

    /** Where the match of the pattern from q on ends if it begins at s; -1 if there is none. */
    private int match(int s, int q) {
        if (q == p.length()) {
            for (Capture c : captures) {
                if (c.open) {
                    throw new Stop(-2);
                }
            }
            return s;
        }
        if (at(q) == '(') {
            return matchOpen(s, q);
        }
        if (at(q) == ')') {
            return matchClose(s, q);
        }
        if (at(q) == '$' && q + 1 == p.length()) {
            return s == t.length() ? match(s, q + 1) : -1;
        }
        if (at(q) == '%' && at(q + 1) == 'b') {
            return matchPair(s, q + 2);
        }
        if (at(q) == '%' && at(q + 1) == 'f') {
            return matchBorder(s, q + 2);
        }
        if (at(q) == '%' && at(q + 1) >= '1' && at(q + 1) <= '9') {
            return matchSame(s, q);
        }
        return matchSingle(s, q);
    }

    private int matchOpen(int s, int q) {
        if (captures.size() == 32) {
            throw new Stop(-2);
        }
        Capture c = new Capture(s);
        c.place = at(q + 1) == ')';
        c.open = !c.place;
        captures.add(c);
        int e = match(s, c.place ? q + 2 : q + 1);
        if (e < 0) {
            captures.remove(captures.size() - 1);
        }
        return e;
    }

    private int matchClose(int s, int q) {
        Capture latest = null;
        for (Capture c : captures) {
            if (c.open) {
                latest = c;
            }
        }
        if (latest == null) {
            throw new Stop(-2);
        }
        latest.open = false;
        latest.to = s;
        int e = match(s, q + 1);
        if (e < 0) {
            latest.open = true;
        }
        return e;
    }

    private int matchPair(int s, int q) {
        if (q + 1 >= p.length()) {
            throw new Stop(-2);
        }
        int depth = 0;
        for (int i = s; i < t.length(); i++) {
            look();
            char c = t.charAt(i);
            if (i == s && c != at(q)) {
                return -1;
            }
            if (i > s && c == at(q + 1)) {
                depth--;
            } else if (c == at(q)) {
                depth++;
            }
            if (depth == 0) {
                return match(i + 1, q + 2);
            }
        }
        return -1;
    }

    private int matchBorder(int s, int q) {
        if (at(q) != '[') {
            throw new Stop(-2);
        }
        int e = singleEnd(q);
        look();
        int before = s == 0 ? 0 : t.charAt(s - 1);
        int here = s == t.length() ? 0 : t.charAt(s);
        return !inSingle(q, e, before) && inSingle(q, e, here) ? match(s, e) : -1;
    }

    private int matchSame(int s, int q) {
        int k = at(q + 1) - '1';
        if (k >= captures.size() || captures.get(k).open || captures.get(k).place) {
            throw new Stop(-2);
        }
        String had = t.substring(captures.get(k).from, captures.get(k).to);
        if (t.length() - s < had.length()) {
            return -1;
        }
        for (int i = 0; i < had.length(); i++) {
            look();
            if (t.charAt(s + i) != had.charAt(i)) {
                return -1;
            }
        }
        return match(s + had.length(), q + 2);
    }

    private boolean takes(int s, int q, int e) {
        if (s == t.length()) {
            return false;
        }
        look();
        return inSingle(q, e, t.charAt(s));
    }

    private int matchSingle(int s, int q) {
        int e = singleEnd(q);
        switch (at(e)) {
            case '?': {
                if (takes(s, q, e)) {
                    int end = match(s + 1, e + 1);
                    if (end >= 0) {
                        return end;
                    }
                }
                return match(s, e + 1);
            }
            case '*':
                return matchMany(s, s, q, e);
            case '+':
                return matchMany(s, s + 1, q, e);
            case '-': {
                int i = s;
                while (true) {
                    int end = match(i, e + 1);
                    if (end >= 0) {
                        return end;
                    }
                    if (!takes(i, q, e)) {
                        return -1;
                    }
                    i++;
                }
            }
            default:
                return takes(s, q, e) ? match(s + 1, e) : -1;
        }
    }

    private int matchMany(int s, int least, int q, int e) {
        int i = s;
        while (takes(i, q, e)) {
            i++;
        }
        for (; i >= least; i--) {
            int end = match(i, e + 1);
            if (end >= 0) {
                return end;
            }
        }
        return -1;
    }

    private int singleEnd(int q) {
        if (at(q) == '%') {
            if (q + 1 == p.length()) {
                throw new Stop(-2);
            }
            return q + 2;
        }
        if (at(q) != '[') {
            return q + 1;
        }
        int start = at(q + 1) == '^' ? q + 2 : q + 1;
        int i = start;
        while (i < p.length()) {
            if (at(i) == ']' && i != start) {
                return i + 1;
            }
            i += at(i) == '%' ? 2 : 1;
        }
        throw new Stop(-2);
    }

    private boolean inSingle(int q, int e, int b) {
        switch (at(q)) {
            case '.':
                return true;
            case '%':
                return inNamed(at(q + 1), b);
            case '[':
                return at(q + 1) == '^' ? !inSet(p.substring(q + 2, e - 1), b)
                    : inSet(p.substring(q + 1, e - 1), b);
            default:
                return at(q) == b;
        }
    }

    private static boolean inSet(String between, int b) {
        boolean in = false;
        String rest = between;
        while (!rest.isEmpty()) {
            char c = rest.charAt(0);
            if (c == '%' && rest.length() > 1) {
                in |= inNamed(rest.charAt(1), b);
                rest = rest.substring(2);
            } else if (rest.length() > 2 && rest.charAt(1) == '-') {
                in |= c <= b && b <= rest.charAt(2);
                rest = rest.substring(3);
            } else {
                in |= c == b;
                rest = rest.substring(1);
            }
        }
        return in;
    }

    private static boolean inNamed(int name, int b) {
        boolean small = 'a' <= b && b <= 'z';
        boolean great = 'A' <= b && b <= 'Z';
        boolean digit = '0' <= b && b <= '9';
        switch (name) {
            case 'a': return small || great;
            case 'd': return digit;
            case 'l': return small;
            case 'u': return great;
            case 'w': return small || great || digit;
            case 's': return b == 32 || 9 <= b && b <= 13;
            case 'x': return digit || b < 128 && "abcdefABCDEF".indexOf(b) >= 0;
            case 'g': return 33 <= b && b <= 126;
            case 'p': return 33 <= b && b <= 126 && !small && !great && !digit;
            case 'c': return b < 32 || b == 127;
            default:
                if (name >= 'A' && name <= 'Z' && "adluwsxgpc".indexOf(name + 32) >= 0) {
                    return !inNamed(name + 32, b);
                }
                return name == b;
        }
    }
}
