import java.nio.charset.StandardCharsets;
import java.util.ArrayList;
import java.util.List;

/** Counts the answers that are not as due, and types texts into a TextPatterns. */
final class Checks {
    static final int TEXT = 0;
    static final int PATTERN = 1;
    static final int REPLACEMENT = 2;

    private int wrong = 0;
    private int made = 0;

    void due(String what, long got, long want) {
        made++;
        if (got != want) {
            wrong++;
            System.out.println(what + " answered " + got + ", due is " + want);
        }
    }

    void due(String what, String got, String want) {
        made++;
        if (!got.equals(want)) {
            wrong++;
            System.out.println(what + " answered \"" + got + "\", due is \"" + want + "\"");
        }
    }

    /** find(from) on a new object is due to tell this line (see found()). */
    void dueFound(String text, String pattern, int from, String want) {
        due("find(" + from + ") of " + pattern + " in " + text, found(text, pattern, from), want);
    }

    /** replace(most) on a new object is due to tell this line (see replaced()). */
    void dueReplaced(String text, String pattern, String by, int most, String want) {
        due("replace(" + most + ") of " + pattern + " by " + by + " in " + text,
            replaced(text, pattern, by, most), want);
    }

    /** The bytes that single() says are in the pattern are due to be these spans, or "wrong". */
    void dueBytes(String pattern, String want) {
        TextPatterns x = of("", pattern);
        List<String> spans = new ArrayList<>();
        int from = -1;
        for (int b = 0; b <= 256; b++) {
            boolean in = b < 256 && x.single(b) == 1;
            if (in && from < 0) {
                from = b;
            } else if (!in && from >= 0) {
                spans.add(from == b - 1 ? "" + from : from + "-" + (b - 1));
                from = -1;
            }
        }
        String got = x.single(0) == TextPatterns.WRONG ? "wrong" : String.join(" ", spans);
        due("bytes of " + pattern, got, want);
    }

    int wrongSoFar() {
        return wrong;
    }

    void end() {
        System.out.println(made + " answers looked at, " + wrong + " not as due");
        if (wrong != 0) {
            System.exit(1);
        }
    }

    /** Types a text of characters 0 .. 255, eight bytes a call. */
    static int type(TextPatterns x, int row, String s) {
        byte[] bytes = s.getBytes(StandardCharsets.ISO_8859_1);
        int length = 0;
        for (int at = 0; at < bytes.length; at += 8) {
            int n = Math.min(8, bytes.length - at);
            long packed = 0;
            for (int i = 0; i < n; i++) {
                packed = packed << 8 | bytes[at + i] & 255;
            }
            length = x.type(row, packed, n);
        }
        return length;
    }

    static void set(TextPatterns x, int row, String s) {
        x.clear(row);
        type(x, row, s);
    }

    static TextPatterns of(String text, String pattern) {
        TextPatterns x = new TextPatterns();
        type(x, TEXT, text);
        type(x, PATTERN, pattern);
        return x;
    }

    static TextPatterns of(String text, String pattern, String replacement) {
        TextPatterns x = of(text, pattern);
        type(x, REPLACEMENT, replacement);
        return x;
    }

    static String result(TextPatterns x) {
        StringBuilder s = new StringBuilder();
        for (int i = 0; i < x.size(); i++) {
            s.append((char) x.result(i));
        }
        return s.toString();
    }

    /** What there is to be seen of the match, in one line. */
    static String match(TextPatterns x) {
        StringBuilder s = new StringBuilder();
        s.append(x.first()).append("..").append(x.last());
        for (int k = 0; k < x.captures(); k++) {
            s.append(' ').append(x.capture(k, 0)).append('+').append(x.capture(k, 1));
        }
        return s.toString();
    }

    /** What the calls that only ask tell of the match, the looks and the result, in one line. */
    static String state(TextPatterns x) {
        return match(x) + " looks " + x.looks() + " result " + result(x);
    }

    /** find(from) on a new object: its answer, the match and the looks in one line. */
    static String found(String text, String pattern, int from) {
        TextPatterns x = of(text, pattern);
        int answer = x.find(from);
        return answer + " " + match(x) + " looks " + x.looks();
    }

    /** replace(most) on a new object: its answer and the result in one line. */
    static String replaced(String text, String pattern, String replacement, int most) {
        TextPatterns x = of(text, pattern, replacement);
        int answer = x.replace(most);
        return answer + " " + result(x);
    }
}
