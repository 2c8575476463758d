import java.nio.charset.StandardCharsets;
import java.util.Random;

/** Long runs of calls, made by a generator with a fixed seed, against the Model's answers. */
public final class ModelTest {
    private static final String[] PIECES = {
        "a", "b", "c", ".", "%a", "%d", "%w", "%s", "%x", "%p", "%g", "%c", "%l", "%u", "%A", "%D",
        "%W", "%S", "[ab]", "[^a]", "[a-c]", "[%d-]", "[]a]", "[^]b]", "[%]%w]", "[a-%d]", "[+-%%]",
        "(", ")", "()", "(", ")", "(a*)", "(.-)", "(%w+)", "%1", "%2", "%3", "%b()", "%baa", "%bab",
        "%b((", "%f[%w]", "%f[^%w]", "%f[a]", "%f[\0]", "%f[%z]", "$", "^", "*", "+", "-", "?", "]",
        "[", "%", "%%", "%b", "%f", "%0", "1", " ", "\u00ff", "\0", "(a)", "(b?)", ".-", ".*"
    };
    private static final String[] SUFFIXES = {"", "", "", "*", "+", "-", "?"};
    private static final String BYTES = "aaabbbc1 ()[]%-^$+*?.\0\u00ffZ";
    private static final String[] MARKS = {
        "a", "-", "%0", "%1", "%2", "%3", "%%", "%0%0", "x%1", "%", "%9", "%a", "\u00ff"
    };

    private final Random random = new Random(20261115);
    private final Checks checks = new Checks();
    private TextPatterns x;
    private Model m;
    private String log;

    public static void main(String[] args) {
        ModelTest test = new ModelTest();
        for (int run = 0; run < 12000 && test.checks.wrongSoFar() < 20; run++) {
            test.run(run % 3);
        }
        test.nearTheMostLooks();
        test.longPatterns();
        test.checks.end();
    }

    private void anew() {
        x = new TextPatterns();
        m = new Model();
        log = "";
    }

    private void run(int kind) {
        anew();
        for (int call = 0; call < 40; call++) {
            int what = random.nextInt(16);
            if (what < 3) {
                set(0, text(kind));
            } else if (what < 6) {
                set(1, pattern(kind));
            } else if (what < 8) {
                set(2, replacement());
            } else if (what < 9) {
                odd();
            } else {
                act(what);
            }
            compareState();
        }
    }

    private void act(int what) {
        if (what < 11) {
            int from = random.nextInt(8) == 0 ? random.nextInt(30) - 5 : random.nextInt(4);
            due("find(" + from + ")", x.find(from), m.find(from));
        } else if (what < 14) {
            due("next()", x.next(), m.next());
        } else if (what < 15) {
            int most = random.nextInt(6) == 0 ? -1 + random.nextInt(4) : 1000;
            due("replace(" + most + ")", x.replace(most), m.replace(most));
        } else {
            log += " begin";
            x.begin();
            m.begin();
        }
    }

    /** Calls with arguments from anywhere. */
    private void odd() {
        int a = random.nextInt(3) == 0 ? random.nextInt() : random.nextInt(12) - 3;
        int b = random.nextInt(3) == 0 ? random.nextInt() : random.nextInt(12) - 3;
        long c = random.nextLong();
        due("type(" + a + ", " + c + ", " + b + ")", x.type(a, c, b), m.type(a, c, b));
        due("find(" + a + ")", x.find(a), m.find(a));
        due("capture(" + a + ", " + b + ")", x.capture(a, b), m.capture(a, b));
        due("result(" + a + ")", x.result(a), m.result(a));
        due("single(" + b + ")", x.single(b), m.single(b));
        due("clear(" + b + ")", x.clear(b), m.clear(b));
    }

    private void compareState() {
        due("looks()", x.looks(), m.looks());
        due("first()", x.first(), m.first());
        due("last()", x.last(), m.last());
        due("captures()", x.captures(), m.captures());
        for (int k = 0; k <= Math.max(0, m.captures()); k++) {
            due("capture(" + k + ", 0)", x.capture(k, 0), m.capture(k, 0));
            due("capture(" + k + ", 1)", x.capture(k, 1), m.capture(k, 1));
        }
        due("size()", x.size(), m.size());
        for (int i = -1; i <= m.size(); i++) {
            due("result(" + i + ")", x.result(i), m.result(i));
        }
        int b = random.nextInt(256);
        due("single(" + b + ")", x.single(b), m.single(b));
    }

    private void due(String call, long got, long want) {
        checks.due("", 0, 0);
        if (got != want) {
            checks.due(log + " " + call, got, want);
        }
        if (call.startsWith("next") || call.startsWith("find") || call.startsWith("replace")) {
            log += " " + call;
        }
    }

    private void set(int row, String s) {
        due("clear(" + row + ")", x.clear(row), m.clear(row));
        append(row, s);
        log += " [" + row + ": " + s + "]";
    }

    private void append(int row, String s) {
        byte[] bytes = s.getBytes(StandardCharsets.ISO_8859_1);
        for (int at = 0; at < bytes.length; at += 8) {
            int n = Math.min(8, bytes.length - at);
            long packed = 0;
            for (int i = 0; i < n; i++) {
                packed = packed << 8 | bytes[at + i] & 255;
            }
            due("type(" + row + ")", x.type(row, packed, n), m.type(row, packed, n));
        }
    }

    private String text(int kind) {
        String from = kind == 0 ? "ab" : kind == 1 ? "aab(c)1 " : BYTES;
        int length = random.nextInt(10) == 0 ? random.nextInt(120) : random.nextInt(24);
        StringBuilder s = new StringBuilder();
        for (int i = 0; i < length; i++) {
            s.append(from.charAt(random.nextInt(from.length())));
        }
        return s.toString();
    }

    private String pattern(int kind) {
        StringBuilder s = new StringBuilder(random.nextInt(6) == 0 ? "^" : "");
        int count = random.nextInt(7);
        for (int i = 0; i < count; i++) {
            if (kind == 2) {
                s.append(BYTES.charAt(random.nextInt(BYTES.length())));
            } else {
                s.append(PIECES[random.nextInt(PIECES.length)]);
                s.append(SUFFIXES[random.nextInt(SUFFIXES.length)]);
            }
        }
        return s.append(random.nextInt(8) == 0 ? "$" : "").toString();
    }

    private String replacement() {
        StringBuilder s = new StringBuilder();
        int count = random.nextInt(4);
        int times = random.nextInt(12) == 0 ? 60 : 1;
        for (int i = 0; i < count; i++) {
            s.append(MARKS[random.nextInt(MARKS.length)].repeat(times));
        }
        return s.toString();
    }

    /** Every kind of look as the one that is too many. */
    private void nearTheMostLooks() {
        String[] patterns = {
            "a-%f[\1]", "a*%f[\1]", "a*b", "a+b", "a-b", "a?a-b", "(a-)%1b", "(a*)%1b", "a-%bab",
            "a*%baa", ".-%bac", "a-a-b", "a*a?c", "(a+)b-%1c", "^a*a*b", "a*$b"
        };
        for (String pattern : patterns) {
            anew();
            set(1, pattern);
            for (int n = 0; n < 40; n++) {
                append(0, n < 38 ? "aaaaaaaaa" : "bc");
                due("find(0)", x.find(0), m.find(0));
                compareState();
                due("replace(9)", x.replace(9), m.replace(9));
                compareState();
            }
            for (int from = 0; from < 120; from++) {
                due("find(" + from + ")", x.find(from), m.find(from));
                due("looks()", x.looks(), m.looks());
            }
        }
    }

    /** As many items and choices as a pattern of 512 bytes can have. */
    private void longPatterns() {
        String[] pieces = {"a", "a?", "a*", "a-", ".-", "()", "%1", "[a]", "%f[a]", "(", "(a)"};
        for (String piece : pieces) {
            for (int length = 508; length <= 512; length++) {
                anew();
                String whole = (piece.equals("%1") ? "(b*)" : "") + piece.repeat(512);
                set(1, whole.substring(0, length));
                for (int n = 0; n < 20; n++) {
                    append(0, "a".repeat(n * 4));
                    due("find(0)", x.find(0), m.find(0));
                    due("next()", x.next(), m.next());
                    compareState();
                }
            }
        }
    }
}
