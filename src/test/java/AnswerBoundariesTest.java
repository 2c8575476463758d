/** Promises 7 to 15: each sentence that names a boundary has a test, and stands above it. */
public final class AnswerBoundariesTest {
    private static final int BAD = TextPatterns.BAD;
    private static final int WRONG = TextPatterns.WRONG;
    private static final int FULL = TextPatterns.FULL;
    private static final int LONG = TextPatterns.LONG;
    private static final int LEAST = Integer.MIN_VALUE;
    private static final int MOST = Integer.MAX_VALUE;
    private static final String NO_MATCH = "-1..-1";

    private final Checks checks = new Checks();

    public static void main(String[] args) {
        AnswerBoundariesTest test = new AnswerBoundariesTest();
        test.replaceMostAtMost();
        test.replaceEmptyRows();
        test.replaceEmptyMatches();
        test.replaceKeepsTheByteThere();
        test.replaceWithCircumflex();
        test.replaceMarks();
        test.replacePlacesNumbers();
        test.replaceOneWithoutCaptures();
        test.replaceWrongPattern();
        test.replaceWrongReplacement();
        test.replaceLong();
        test.replaceJustFits();
        test.replaceFullByEachByte();
        test.replaceFullByItsMarks();
        test.replaceFirstOfTheThree();
        test.replaceEmptyThen();
        test.replaceDropsTheMatch();
        test.replaceBad();
        test.looksBefore();
        test.looksOfTheLatest();
        test.looksOfRefused();
        test.firstAndLast();
        test.firstAndLastBad();
        test.captureCounts();
        test.captureEdges();
        test.captureBad();
        test.sizes();
        test.resultEdges();
        test.singleByteEdges();
        test.singleAndNothingElse();
        test.singleStandsForItself();
        test.singleWrong();
        test.checks.end();
    }

    private void replaced(String text, String pattern, String by, int most, String want) {
        checks.dueReplaced(text, pattern, by, most, want);
    }

    private void matchIs(TextPatterns x, String want) {
        checks.due("the match", Checks.match(x), want);
    }

    /** Answer and size alone, for results too long to be asked for byte by byte. */
    private void sized(String text, String pattern, String by, int most, String want) {
        TextPatterns x = Checks.of(text, pattern, by);
        int answer = x.replace(most);
        checks.due("replace(" + most + ") of " + pattern + " by " + by,
            answer + " size " + x.size() + " last " + x.result(x.size() - 1), want);
    }

    private void full(String text, String pattern, String by, int most) {
        sized(text, pattern, by, most, FULL + " size 0 last " + BAD);
    }

    /** Promise 7: its matches, most at most, replaced. */
    private void replaceMostAtMost() {
        replaced("aaa", "a", "x", 0, "0 aaa");
        replaced("aaa", "a", "x", 1, "1 xaa");
        replaced("aaa", "a", "x", 2, "2 xxa");
        replaced("aaa", "a", "x", 3, "3 xxx");
        replaced("aaa", "a", "x", 4, "3 xxx");
        replaced("aaa", "a", "x", MOST, "3 xxx");
        replaced("aaa", "b", "x", MOST, "0 aaa");
        TextPatterns x = Checks.of("aaa", "a", "x");
        x.replace(0);
        checks.due("none to be replaced, no look", x.looks(), 0);
        x.replace(2);
        checks.due("no look behind the last one", x.looks(), 2);
    }

    /** Promise 7 with an empty text, pattern or replacement. */
    private void replaceEmptyRows() {
        replaced("", "", "", 9, "1 ");
        replaced("", "", "x", 9, "1 x");
        replaced("", "a", "x", 9, "0 ");
        replaced("", "a*", "<%0>", 9, "1 <>");
        replaced("", "$", "x", 9, "1 x");
        replaced("", "^", "x", 9, "1 x");
        replaced("", "()", "%1", 9, "1 1");
        replaced("ab", "", "x", 9, "3 xaxbx");
        replaced("ab", "", "", 9, "3 ab");
        replaced("ab", "a", "", 9, "1 b");
        replaced("ab", "%a", "", 9, "2 ");
    }

    /** Promise 7: a match there, which does not end where the latest one did, is replaced. */
    private void replaceEmptyMatches() {
        replaced("aab", "a*", "x", 9, "2 xbx");
        replaced("baa", "a*", "x", 9, "2 xbx");
        replaced("abab", "a*", "x", 9, "3 xbxbx");
        replaced("ab", "a-", "x", 9, "3 xaxbx");
        replaced("ab", "b?", "x", 9, "2 xax");
        replaced("aab", "%f[b]", "x", 9, "1 aaxb");
        replaced("ab", "b?", "x", 2, "2 xax");
        replaced("ab", "b?", "x", 1, "1 xab");
    }

    /** Promise 7: else the byte there is kept (if there is one), and it goes on one further. */
    private void replaceKeepsTheByteThere() {
        replaced("abc", "c", "x", 9, "1 abx");
        replaced("abc", "c$", "x", 9, "1 abx");
        replaced("abc", "$", "x", 9, "1 abcx");
        replaced("abc", "d", "x", 9, "0 abc");
        replaced("\0\u00ff\u0080", "d", "x", 9, "0 \0\u00ff\u0080");
    }

    /** Promise 7: (with ^ it ends behind place 0). */
    private void replaceWithCircumflex() {
        replaced("aaa", "^a", "x", 9, "1 xaa");
        replaced("baa", "^a", "x", 9, "0 baa");
        replaced("aaa", "^", "x", 9, "1 xaaa");
        replaced("aaa", "^a*", "x", 9, "1 x");
        replaced("aaa", "^$", "x", 9, "0 aaa");
        replaced("aaa", "^a", "x", 0, "0 aaa");
        replaced("a^a", "%^a", "x", 9, "1 ax");
        TextPatterns x = Checks.of("baa", "^a", "y");
        x.replace(9);
        checks.due("looks at place 0 alone", x.looks(), 1);
    }

    /** Promise 7: % and 0: the whole match; % and 1 .. 9: that capture; %%: one %. */
    private void replaceMarks() {
        replaced("abc", "b", "<%0>", 9, "1 a<b>c");
        replaced("abc", "b*", "<%0>", 1, "1 <>abc");
        replaced("abc", "b", "%%", 9, "1 a%c");
        replaced("abc", "b", "%%%%", 9, "1 a%%c");
        replaced("abc", "b", "%%0", 9, "1 a%0c");
        replaced("abc", "b", "%00", 9, "1 ab0c");
        String nine = "(a)(b)(c)(d)(e)(f)(g)(h)(i)";
        replaced("abcdefghi", nine, "%9%8%7%6%5%4%3%2%1", 9, "1 ihgfedcba");
        // There is no %10: it is %1, and the byte 0.
        replaced("abcdefghij", nine + "(j)", "%10", 9, "1 a0");
        replaced("ab", "(x*)(a)", "%1%2", 9, "1 ab");
    }

    /** Promise 7: (a place's: its number, counted from 1, as decimals). */
    private void replacePlacesNumbers() {
        replaced("ab", "()a", "%1", 9, "1 1b");
        replaced("ab", "()$", "%1", 9, "1 ab3");
        for (int before : new int[] {0, 8, 9, 10, 98, 99, 100, 998, 999, 1000, 3999}) {
            String kept = "x".repeat(before);
            replaced(kept + "a", "()a", "<%1>", 9, "1 " + kept + "<" + (before + 1) + ">");
            replaced(kept + "a", "a()", "<%1>", 9, "1 " + kept + "<" + (before + 2) + ">");
        }
        String whole = "x".repeat(4096);
        replaced(whole, "()$", "%1", 9, "1 " + whole + "4097");
    }

    /** Promise 7: (1, if there are no captures: the whole). */
    private void replaceOneWithoutCaptures() {
        replaced("abc", "b", "<%1>", 9, "1 a<b>c");
        replaced("abc", "", "<%1>", 1, "1 <>abc");
        replaced("abc", "b", "%2", 9, "-2 ");
        replaced("abc", "(b)", "<%1>", 9, "1 a<b>c");
        replaced("abc", "b()", "<%1>", 9, "1 a<3>c");
        replaced("abc", "(b)", "%2", 9, "-2 ");
    }

    /** Promise 7: WRONG. */
    private void replaceWrongPattern() {
        replaced("abc", "%", "x", 9, "-2 ");
        replaced("abc", "%", "x", 0, "0 abc");
        replaced("abc", "c(", "x", 9, "-2 ");
        replaced("abc", "d(", "x", 9, "0 abc");
        replaced("aab", "a(b", "x", 9, "-2 ");
        replaced("abab", "^a(c", "x", 9, "0 abab");
        TextPatterns x = Checks.of("aab", "a?(b", "x");
        checks.due("wrong behind looks", x.replace(9), WRONG);
        checks.due("wrong behind looks", x.looks(), 5);
    }

    /** Promise 7: WRONG (also for another byte behind %, or none, or a capture that is not there,
     *  when a match is replaced). */
    private void replaceWrongReplacement() {
        for (int b = 0; b < 256; b++) {
            boolean right = b == '%' || b == '0' || b == '1';
            String want = b == '%' ? "1 %" : right ? "1 a" : "-2 ";
            replaced("a", "a", "%" + (char) b, 9, want);
            // As many captures as there can be: still only those of 1 .. 9 have a mark.
            String ofMany = b >= '2' && b <= '9' ? "1 " : want;
            replaced("a", "(a?)".repeat(32), "%" + (char) b, 1, ofMany);
        }
        for (String by : new String[] {"%", "x%", "%%%", "%0%", "%x", "%2"}) {
            replaced("abc", "b", by, 9, "-2 ");
            replaced("abc", "d", by, 9, "0 abc");
            replaced("abc", "b", by, 0, "0 abc");
        }
        String full = "x".repeat(511);
        replaced("a", "a", full + "%", 9, "-2 ");
        replaced("a", "a", full.substring(1) + "%%", 9, "1 " + full.substring(1) + "%");
        replaced("aa", "(a)(a)", "%2%3", 9, "-2 ");
    }

    /** Promise 7: LONG. */
    private void replaceLong() {
        // 2 * (m + 1) looks of m a's, from each place on; 2 of a c, 2 of a b.
        String some = "a".repeat(314);
        TextPatterns x = Checks.of("b" + some + "c".repeat(230), "a*b", "x");
        checks.due("100000 looks", x.replace(9), 1);
        checks.due("100000 looks", x.looks(), 100000);
        checks.due("100000 looks", x.size(), 545);
        x.type(0, 'c', 1);
        checks.due("one more", x.replace(9), LONG);
        checks.due("one more", x.looks(), 100000);
        checks.due("one more", x.size(), 0);
        checks.due("fewer", x.replace(1), 1);
        checks.due("fewer", x.size(), 546);
        checks.due("fewer", x.looks(), 2);
    }

    /** Promise 7: FULL when the result would have more than 8192 bytes. */
    private void replaceJustFits() {
        String by = "x".repeat(511) + "y";
        sized("a".repeat(16), "a", by, 99, "16 size 8192 last 121");
        sized("a".repeat(16), "a", by, 16, "16 size 8192 last 121");
        full("a".repeat(17), "a", by, 99);
        sized("a".repeat(17), "a", by, 15, "15 size 7682 last 97");
        sized("a".repeat(3000) + "bc", "b", "%0".repeat(256), 1, "1 size 3257 last 99");
    }

    /** Promise 7: FULL: the byte too many is a replacement's, one kept, or one of the rest. */
    private void replaceFullByEachByte() {
        String by = "x".repeat(511) + "y";
        full("b" + "a".repeat(16), "a", by, 99);
        sized("b".repeat(512) + "a".repeat(15), "a", by, 99, "15 size 8192 last 121");
        full("b".repeat(513) + "a".repeat(15), "a", by, 99);
        sized("a".repeat(15) + "b".repeat(512), "a", by, 99, "15 size 8192 last 98");
        full("a".repeat(15) + "b".repeat(513), "a", by, 99);
        sized("a".repeat(15) + "b".repeat(512), "a", by, 15, "15 size 8192 last 98");
        full("a".repeat(15) + "b".repeat(513), "a", by, 15);
        sized("aaa" + "a".repeat(12) + "b".repeat(512), "^a", by, 99, "1 size 1038 last 98");
        full("a".repeat(16) + "b", "a", by, 99);
        full("a".repeat(16) + "b", "a", by, 16);
    }

    /** Promise 7: FULL: the byte too many is one of the whole, a capture, a number, or a %. */
    private void replaceFullByItsMarks() {
        sized("a".repeat(32), "a+", "%0".repeat(256), 9, "1 size 8192 last 97");
        full("b" + "a".repeat(32), "a+", "%0".repeat(256), 9);
        full("a".repeat(33), "a+", "%0".repeat(256), 9);
        sized("a".repeat(32), "(a+)", "%1".repeat(256), 9, "1 size 8192 last 97");
        full("b" + "a".repeat(32), "(a+)", "%1".repeat(256), 9);
        sized("a".repeat(32), "a+", "%1".repeat(256), 9, "1 size 8192 last 97");
        full("b" + "a".repeat(32), "a+", "%1".repeat(256), 9);
        sized("a".repeat(32), "a", "%%".repeat(256), 99, "32 size 8192 last 37");
        full("b" + "a".repeat(32), "a", "%%".repeat(256), 99);
        // Places 513 .. 522: three digits, 256 times, ten times; the last digit is a 2, or a 3.
        sized("b".repeat(512) + "a".repeat(10), "()a", "%1".repeat(256), 99,
            "10 size 8192 last 50");
        full("b".repeat(513) + "a".repeat(10), "()a", "%1".repeat(256), 99);
        full("b".repeat(514) + "a".repeat(10), "()a", "%1".repeat(256), 99);
        full("b".repeat(515) + "a".repeat(10), "()a", "%1".repeat(256), 99);
    }

    /** Promise 7: WRONG; LONG; FULL: the one that it comes to first, going from the left. */
    private void replaceFirstOfTheThree() {
        String some = "a".repeat(3000);
        checks.due("WRONG, then FULL", Checks.of(some, "a+", "%0%0%z%0").replace(1), WRONG);
        checks.due("FULL, then WRONG", Checks.of(some, "a+", "%0%0%0%z").replace(1), FULL);
        // From the first of the a's on, a*b is LONG.
        String by = "x".repeat(512);
        String matches = "b".repeat(17);
        checks.due("FULL, then LONG", Checks.of(matches + some, "a*b", by).replace(99), FULL);
        checks.due("LONG, then FULL", Checks.of(some + "c" + matches, "a*b", by).replace(99), LONG);
        checks.due("WRONG, then LONG", Checks.of("b" + some, "a*b", "%").replace(99), WRONG);
        checks.due("LONG, then WRONG", Checks.of(some + "cb", "a*b", "%").replace(99), LONG);
    }

    /** Promise 7: with these three the result is empty. */
    private void replaceEmptyThen() {
        TextPatterns x = Checks.of("a".repeat(200), "a", "xy");
        for (int kind = 0; kind < 4; kind++) {
            Checks.set(x, 1, "a");
            Checks.set(x, 2, "xy");
            checks.due("a result", x.replace(1), 1);
            checks.due("a result", x.size(), 201);
            Checks.set(x, 1, new String[] {"a(", "a", "a", "a-a-a-b"}[kind]);
            Checks.set(x, 2, new String[] {"", "%", "x".repeat(512), ""}[kind]);
            checks.due("none", x.replace(99), new int[] {WRONG, WRONG, FULL, LONG}[kind]);
            checks.due("empty", x.size(), 0);
            checks.due("empty", x.result(0), BAD);
            checks.due("empty", x.result(-1), BAD);
        }
    }

    /** Promise 7: there is no match then. */
    private void replaceDropsTheMatch() {
        String[] patterns = {"a", "b", "a(", "a"};
        String[] replacements = {"x", "x", "x", "%"};
        int[] answers = {1, 0, WRONG, WRONG};
        for (int i = 0; i < 4; i++) {
            TextPatterns x = Checks.of("a", "", replacements[i]);
            Checks.set(x, 1, patterns[i]);
            x.find(0);
            checks.due("replace", x.replace(9), answers[i]);
            matchIs(x, NO_MATCH);
            checks.due("captures", x.captures(), BAD);
        }
        TextPatterns x = Checks.of("a", "(a)", "x");
        x.find(0);
        matchIs(x, "0..1 0+1");
        checks.due("none to be replaced", x.replace(0), 0);
        matchIs(x, NO_MATCH);
    }

    /** Promise 7: BAD when most is less than 0. */
    private void replaceBad() {
        TextPatterns x = Checks.of("ab", "(b)", "x");
        x.replace(9);
        x.find(0);
        for (int most : new int[] {-1, -2, LEAST}) {
            checks.due("replace(" + most + ")", x.replace(most), BAD);
            matchIs(x, "1..2 1+1");
            checks.due("the result stays", Checks.result(x), "ax");
        }
        // Looked at before what is wrong.
        Checks.set(x, 1, "(");
        checks.due("BAD, not WRONG", x.replace(-1), BAD);
        checks.due("WRONG", x.replace(1), WRONG);
    }

    /** Promise 8: 0 before. */
    private void looksBefore() {
        TextPatterns x = new TextPatterns();
        checks.due("new", x.looks(), 0);
        Checks.type(x, 0, "aab");
        Checks.type(x, 1, "b");
        x.single('b');
        x.begin();
        checks.due("no find, next or replace yet", x.looks(), 0);
    }

    /** Promise 8: how many looks the latest find(), next() or replace() made. */
    private void looksOfTheLatest() {
        TextPatterns x = Checks.of("aab", "b", "x");
        x.find(0);
        checks.due("find", x.looks(), 3);
        checks.due("asked again", x.looks(), 3);
        x.find(2);
        checks.due("the latest", x.looks(), 1);
        x.find(3);
        checks.due("none made", x.looks(), 0);
        x.next();
        checks.due("next", x.looks(), 3);
        x.find(1);
        checks.due("find", x.looks(), 2);
        x.replace(1);
        checks.due("replace", x.looks(), 3);
        x.single('b');
        x.begin();
        x.first();
        x.result(0);
        x.capture(0, 0);
        x.clear(2);
        x.type(0, 'b', 1);
        x.clear(9);
        x.type(9, 'b', 1);
        checks.due("others make none", x.looks(), 3);
    }

    /** Promise 8: the latest one, also when it was BAD, or had nothing to search: none made. */
    private void looksOfRefused() {
        TextPatterns x = Checks.of("aab", "b", "x");
        x.find(0);
        x.find(4);
        checks.due("find that is BAD", x.looks(), 0);
        x.find(0);
        x.replace(-1);
        checks.due("replace that is BAD", x.looks(), 0);
        x.next();
        x.next();
        x.find(0);
        x.next();
        checks.due("next that is over", x.looks(), 0);
    }

    /** Promises 9 and 10: where THE MATCH begins, and the place behind its last byte. */
    private void firstAndLast() {
        TextPatterns x = Checks.of("abc", "a");
        x.find(0);
        matchIs(x, "0..1");
        Checks.set(x, 1, "c");
        x.find(0);
        matchIs(x, "2..3");
        Checks.set(x, 1, "");
        x.find(3);
        matchIs(x, "3..3");
        x.find(0);
        matchIs(x, "0..0");
        Checks.set(x, 1, ".*");
        x.next();
        matchIs(x, "0..3");
    }

    /** Promises 9, 10 and 11: BAD when there is none. */
    private void firstAndLastBad() {
        TextPatterns x = Checks.of("abc", "(b)", "x");
        for (int how = 0; how < 7; how++) {
            x.begin();
            x.find(0);
            matchIs(x, "1..2 1+1");
            switch (how) {
                case 0: x.find(2); break;
                case 1: x.replace(0); break;
                case 2: x.type(2, 'x', 1); break;
                case 3: x.clear(2); break;
                case 4: x.next(); x.next(); break;
                case 5: x.clear(1); Checks.type(x, 1, "(b)"); break;
                default: x.find(3); break;
            }
            checks.due("first " + how, x.first(), BAD);
            checks.due("last " + how, x.last(), BAD);
            checks.due("captures " + how, x.captures(), BAD);
            checks.due("capture " + how, x.capture(0, 0), BAD);
        }
    }

    /** Promise 11: how many captures it has. */
    private void captureCounts() {
        for (int count = 0; count <= 32; count++) {
            TextPatterns x = Checks.of("a", "()".repeat(count));
            x.find(0);
            checks.due("captures", x.captures(), count);
            x.next();
            checks.due("captures of next", x.captures(), count);
        }
        TextPatterns x = Checks.of("a", "()".repeat(33));
        x.find(0);
        checks.due("33", x.captures(), BAD);
    }

    /** Promise 12: capture k's beginning (what = 0), and its length, -1 for a place's (1). */
    private void captureEdges() {
        TextPatterns x = Checks.of("abc", "(a)" + "()".repeat(30) + "(b*c)");
        x.find(0);
        checks.due("first capture", x.capture(0, 0), 0);
        checks.due("first capture", x.capture(0, 1), 1);
        checks.due("a place", x.capture(1, 0), 1);
        checks.due("a place", x.capture(1, 1), -1);
        checks.due("the 31st", x.capture(30, 1), -1);
        checks.due("the 32nd", x.capture(31, 0), 1);
        checks.due("the 32nd", x.capture(31, 1), 2);
        checks.due("no 33rd", x.capture(32, 0), BAD);
        checks.due("no 33rd", x.capture(32, 1), BAD);
        TextPatterns y = Checks.of("abc", "(.*)()$");
        y.find(0);
        matchIs(y, "0..3 0+3 3+-1");
        y.find(3);
        matchIs(y, "3..3 3+0 3+-1");
    }

    /** Promise 12: BAD when there is none such, or for another what. */
    private void captureBad() {
        TextPatterns x = Checks.of("ab", "(a)(b)");
        x.find(0);
        for (int k : new int[] {-1, 2, 3, 31, 32, 33, LEAST, MOST}) {
            for (int what : new int[] {-1, 0, 1, 2}) {
                checks.due("capture(" + k + ", " + what + ")", x.capture(k, what), BAD);
            }
        }
        for (int what : new int[] {-1, 2, 3, 256, LEAST, MOST}) {
            checks.due("capture(0, " + what + ")", x.capture(0, what), BAD);
            checks.due("capture(1, " + what + ")", x.capture(1, what), BAD);
        }
        Checks.set(x, 1, "ab");
        x.find(0);
        checks.due("a match without captures", x.capture(0, 0), BAD);
        checks.due("a match without captures", x.capture(0, 1), BAD);
    }

    /** Promise 13: how many bytes the result of the latest replace() has; 0 before. */
    private void sizes() {
        TextPatterns x = new TextPatterns();
        checks.due("before", x.size(), 0);
        Checks.type(x, 0, "abc");
        x.find(0);
        x.next();
        checks.due("before", x.size(), 0);
        x.replace(0);
        checks.due("the text", x.size(), 3);
        x.clear(0);
        checks.due("stays", x.size(), 3);
        x.replace(0);
        checks.due("the latest", x.size(), 0);
        sized("a".repeat(16), "a", "x".repeat(512), 16, "16 size 8192 last 120");
    }

    /** Promise 14: byte i of that result; BAD when there is none such. */
    private void resultEdges() {
        TextPatterns x = new TextPatterns();
        for (int i : new int[] {-1, 0, 1, 8191, 8192, LEAST, MOST}) {
            checks.due("before, result(" + i + ")", x.result(i), BAD);
        }
        Checks.type(x, 0, "\0\u00ffa");
        x.replace(0);
        checks.due("below", x.result(-1), BAD);
        checks.due("first", x.result(0), 0);
        checks.due("middle", x.result(1), 255);
        checks.due("last", x.result(2), 'a');
        checks.due("behind", x.result(3), BAD);
        Checks.set(x, 0, "b");
        x.replace(0);
        checks.due("a shorter one", x.result(0), 'b');
        checks.due("nothing of the longer one", x.result(1), BAD);
        TextPatterns y = Checks.of("a".repeat(16), "a", "x".repeat(511) + "y");
        y.replace(99);
        checks.due("the 8192nd", y.result(8191), 'y');
        checks.due("the 8193rd", y.result(8192), BAD);
    }

    /** Promise 15: BAD when b is not 0 .. 255 (this is looked at first). */
    private void singleByteEdges() {
        for (String pattern : new String[] {".", "", "ab", "[", "%"}) {
            TextPatterns x = Checks.of("", pattern);
            for (int b : new int[] {-1, 256, 257, -256, LEAST, MOST}) {
                checks.due("single(" + b + ") of " + pattern, x.single(b), BAD);
            }
            checks.due("single(0) of " + pattern, x.single(0), pattern.equals(".") ? 1 : WRONG);
            checks.due("single(255) of " + pattern, x.single(255),
                pattern.equals(".") ? 1 : WRONG);
        }
    }

    /** Promise 15: the pattern is one single, and nothing else: 1 or 0; WRONG when it is none. */
    private void singleAndNothingElse() {
        for (String one : new String[] {"a", ".", "%a", "%%", "[a]", "[^a]", "[]]", "[%]]"}) {
            TextPatterns x = Checks.of("", one);
            checks.due("single of " + one, x.single('a') >= 0 ? 1 : 0, 1);
            for (char more : "a*+-?.$()]%\0".toCharArray()) {
                Checks.set(x, 1, one + more);
                checks.due("single of " + one + more, x.single('a'), WRONG);
            }
        }
        checks.dueBytes("a", "97");
        checks.dueBytes("[b-a]", "");
        TextPatterns x = Checks.of("ab", "(b)", "x");
        x.replace(9);
        x.find(0);
        x.single('b');
        checks.due("nothing changes", Checks.state(x), "1..2 1+1 looks 2 result ax");
        checks.due("nor where next goes on", x.next(), 1);
    }

    /** Promise 15: (here ( ) $ ^ stand for themselves, and % and any byte is a single). */
    private void singleStandsForItself() {
        for (int b = 0; b < 256; b++) {
            if (b == '.' || b == '%' || b == '[') {
                continue;
            }
            checks.dueBytes("" + (char) b, "" + b);
        }
        for (char b : "()$^bf0123456789%.[]".toCharArray()) {
            checks.dueBytes("%" + b, "" + (int) b);
        }
    }

    /** Promise 15: WRONG when it is none: an empty pattern, one that ends within, one too long. */
    private void singleWrong() {
        String[] none = {"", "%", "[", "[]", "[^", "[^]", "[a", "[%]", "[a%", "()", "(a)", "^a",
            "a$", "%1a", "%bxy", "%f[a]", "[a][b]", "a".repeat(512), "[" + "a".repeat(511)};
        for (String pattern : none) {
            TextPatterns x = Checks.of("", pattern);
            for (int b = 0; b < 256; b += 5) {
                checks.due("single(" + b + ") of " + pattern, x.single(b), WRONG);
            }
        }
    }
}
