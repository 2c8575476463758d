/** Promises 1 to 6: each sentence that names a boundary has a test, and stands above it. */
public final class SearchBoundariesTest {
    private static final int BAD = TextPatterns.BAD;
    private static final int WRONG = TextPatterns.WRONG;
    private static final int FULL = TextPatterns.FULL;
    private static final int LONG = TextPatterns.LONG;
    private static final int LEAST = Integer.MIN_VALUE;
    private static final int MOST = Integer.MAX_VALUE;
    private static final String NO_MATCH = "-1..-1";
    // In longOne() it is LONG from place 0 on, and makes 4 looks at each of the two c.
    private static final String LONG_PATTERN = "a-a-a-b";

    private final Checks checks = new Checks();

    public static void main(String[] args) {
        SearchBoundariesTest test = new SearchBoundariesTest();
        test.newRowsAreEmpty();
        test.newHasNoMatch();
        test.typeLowestBytes();
        test.typeAnswersTheLength();
        test.typeDropsTheMatch();
        test.typeBadOrFullChangesNothing();
        test.typeBadCount();
        test.typeBadRow();
        test.typeFull();
        test.typeFullText();
        test.clearAnswersHowMany();
        test.clearDropsTheMatch();
        test.clearBad();
        test.findFromTheEdges();
        test.findBadKeepsTheMatch();
        test.findWithoutAMatch();
        test.beginAnew();
        test.nextFromWhereTheLatestEnded();
        test.nextEmptyMatches();
        test.nextWithCircumflex();
        test.nextOverUntilBegin();
        test.nextOverBehindWrong();
        test.nextOverBehindLong();
        test.nextWithChangedRows();
        test.nextWithAShorterText();
        test.checks.end();
    }

    private static TextPatterns longOne() {
        return Checks.of("a".repeat(200) + "cc", LONG_PATTERN, "x");
    }

    private void matchIs(TextPatterns x, String want) {
        checks.due("the match", Checks.match(x), want);
    }

    private void nextIs(TextPatterns x, String want) {
        int answer = x.next();
        checks.due("next", answer + " " + Checks.match(x), want);
    }

    /** Promise 1: three empty rows. */
    private void newRowsAreEmpty() {
        TextPatterns x = new TextPatterns();
        for (int row = 0; row < 3; row++) {
            checks.due("new row " + row, x.clear(row), 0);
        }
        checks.due("an empty text's only place", new TextPatterns().find(0), 1);
        checks.due("behind it", new TextPatterns().find(1), BAD);
        checks.due("an empty pattern is no single", new TextPatterns().single(0), WRONG);
        checks.dueReplaced("", "", "", 1, "1 ");
        checks.dueReplaced("", "", "", 0, "0 ");
        checks.dueReplaced("ab", "", "", 9, "3 ab");
    }

    /** Promise 1: no match. */
    private void newHasNoMatch() {
        TextPatterns x = new TextPatterns();
        checks.due("first", x.first(), BAD);
        checks.due("last", x.last(), BAD);
        checks.due("captures", x.captures(), BAD);
        checks.due("capture", x.capture(0, 0), BAD);
        checks.due("capture", x.capture(0, 1), BAD);
        x.begin();
        checks.due("behind begin", Checks.state(x), "-1..-1 looks 0 result ");
    }

    /** Promise 2: the lowest n bytes of bytes, the highest of them first. */
    private void typeLowestBytes() {
        long packed = 0x8081fe0001617fffL;
        String all = "\u0080\u0081\u00fe\0\1a\u007f\u00ff";
        for (int n = 1; n <= 8; n++) {
            TextPatterns x = new TextPatterns();
            checks.due("type", x.type(0, packed, n), n);
            x.replace(0);
            checks.due("the lowest " + n, Checks.result(x), all.substring(8 - n));
            checks.due("as a pattern", Checks.of(all, all.substring(8 - n)).find(8 - n), 1);
        }
        for (long bytes : new long[] {0L, -1L, Long.MIN_VALUE, Long.MAX_VALUE}) {
            TextPatterns x = new TextPatterns();
            x.type(2, bytes, 8);
            x.replace(1);
            for (int i = 0; i < 8; i++) {
                checks.due("byte " + i, x.result(i), (int) (bytes >>> 56 - 8 * i) & 255);
            }
        }
    }

    /** Promise 2: they come behind the row: its length. */
    private void typeAnswersTheLength() {
        TextPatterns x = new TextPatterns();
        for (int row = 0; row < 3; row++) {
            checks.due("one", x.type(row, 'a', 1), 1);
            checks.due("eight more", x.type(row, 0x6162636465666768L, 8), 9);
            checks.due("one more", x.type(row, 'z', 1), 10);
        }
        checks.due("as the text, so the pattern", x.find(0), 1);
        matchIs(x, "0..10");
        checks.due("and the replacement", x.replace(9), 1);
        checks.due("and the replacement", Checks.result(x), "aabcdefghz");
    }

    /** Promise 2: there is no match any more then. */
    private void typeDropsTheMatch() {
        for (int row = 0; row < 3; row++) {
            TextPatterns x = Checks.of("ab", "(b)");
            x.find(0);
            matchIs(x, "1..2 1+1");
            x.type(row, 'b', 1);
            checks.due("first", x.first(), BAD);
            checks.due("last", x.last(), BAD);
            checks.due("captures", x.captures(), BAD);
            checks.due("capture", x.capture(0, 0), BAD);
        }
    }

    /** Promise 2: (with BAD and FULL nothing changes). */
    private void typeBadOrFullChangesNothing() {
        String pattern = "[" + "b".repeat(510) + "]";
        TextPatterns x = Checks.of("abc", pattern, "x".repeat(512));
        x.replace(0);
        x.next();
        String before = Checks.state(x);
        checks.due("before", before, "1..2 looks 2 result abc");
        int[][] refused = {{0, 0}, {1, 9}, {2, -1}, {3, 1}, {-1, 8}, {1, 1}, {1, 8}, {2, 1}};
        for (int[] call : refused) {
            int answer = x.type(call[0], -1L, call[1]);
            boolean full = call[0] > 0 && call[0] < 3 && call[1] > 0 && call[1] < 9;
            checks.due("type(" + call[0] + ", " + call[1] + ")", answer, full ? FULL : BAD);
            checks.due("nothing changes", Checks.state(x), before);
        }
        checks.due("next goes on where it was", x.next(), 0);
        checks.due("it looked at c alone", x.looks(), 1);
        checks.due("the text", x.clear(0), 3);
        checks.due("the pattern", x.clear(1), 512);
        checks.due("the replacement", x.clear(2), 512);
    }

    /** Promise 2: BAD when n is not 1 .. 8. */
    private void typeBadCount() {
        TextPatterns x = new TextPatterns();
        for (int row = 0; row < 3; row++) {
            for (int n : new int[] {0, 9, -1, -8, 16, 64, 256, 257, LEAST, MOST}) {
                checks.due("type(" + row + ", " + n + ")", x.type(row, 'a', n), BAD);
            }
            checks.due("still empty", x.clear(row), 0);
        }
        // Where it would be FULL too, n is still none that the call takes.
        TextPatterns full = Checks.of("", "a".repeat(512));
        checks.due("n = 9 at a full row", full.type(1, 'a', 9), BAD);
        checks.due("n = 0 at a full row", full.type(1, 'a', 0), BAD);
    }

    /** Promise 2: BAD when row is another one. */
    private void typeBadRow() {
        TextPatterns x = new TextPatterns();
        for (int row : new int[] {-1, 3, 4, 256, -256, LEAST, MOST}) {
            for (int n = 0; n <= 9; n++) {
                checks.due("type(" + row + ", " + n + ")", x.type(row, 'a', n), BAD);
            }
        }
        for (int row = 0; row < 3; row++) {
            checks.due("still empty", x.clear(row), 0);
        }
    }

    /** Promise 2: FULL when there would be too many. */
    private void typeFull() {
        for (int row = 1; row <= 2; row++) {
            for (int room = 0; room <= 8; room++) {
                TextPatterns x = new TextPatterns();
                Checks.type(x, row, "a".repeat(512 - room));
                for (int n = 8; n > room; n--) {
                    checks.due(n + " bytes, room " + room, x.type(row, -1L, n), FULL);
                }
                if (room > 0) {
                    checks.due("just full", x.type(row, -1L, room), 512);
                }
                checks.due("one more", x.type(row, -1L, 1), FULL);
                checks.due("it has", x.clear(row), 512);
                checks.due("empty again", x.type(row, -1L, 8), 8);
            }
        }
    }

    /** Promise 2, the text: 4096 (with 512 calls for the bytes, the rest is beyond the promise). */
    private void typeFullText() {
        for (int room = 0; room <= 8; room++) {
            TextPatterns x = new TextPatterns();
            Checks.type(x, 0, "a".repeat(4096 - room));
            for (int n = 8; n > room; n--) {
                checks.due(n + " bytes, room " + room, x.type(0, -1L, n), FULL);
            }
            if (room > 0) {
                checks.due("just full", x.type(0, -1L, room), 4096);
            }
            checks.due("one more", x.type(0, -1L, 1), FULL);
            checks.due("it has", x.clear(0), 4096);
        }
    }

    /** Promise 3: a row is empty: how many bytes it had. */
    private void clearAnswersHowMany() {
        for (int row = 0; row < 3; row++) {
            TextPatterns x = new TextPatterns();
            for (int had : new int[] {0, 1, 8, 9, 511, 512}) {
                Checks.type(x, row, "a".repeat(had));
                checks.due("other row", x.clear((row + 1) % 3), 0);
                checks.due("row " + row, x.clear(row), had);
                checks.due("row " + row + " again", x.clear(row), 0);
            }
        }
        TextPatterns x = Checks.of("abc", "b", "xy");
        x.clear(1);
        checks.due("an empty pattern matches at once", x.find(0), 1);
        matchIs(x, "0..0");
        x.clear(2);
        checks.due("an empty replacement", x.replace(9), 4);
        checks.due("an empty replacement", Checks.result(x), "abc");
        x.clear(0);
        checks.due("an empty text", x.find(1), BAD);
        checks.due("the result stays", Checks.result(x), "abc");
    }

    /** Promise 3: there is no match any more. */
    private void clearDropsTheMatch() {
        for (int row = 0; row < 3; row++) {
            TextPatterns x = Checks.of("ab", "(b)");
            x.find(0);
            x.clear(row);
            matchIs(x, NO_MATCH);
            checks.due("captures", x.captures(), BAD);
            checks.due("looks stay", x.looks(), 2);
        }
        TextPatterns empty = new TextPatterns();
        empty.find(0);
        checks.due("a row that was empty", empty.clear(2), 0);
        matchIs(empty, NO_MATCH);
    }

    /** Promise 3: BAD. */
    private void clearBad() {
        TextPatterns x = Checks.of("abc", "(b)", "xy");
        x.replace(1);
        x.find(0);
        for (int row : new int[] {-1, 3, 4, 256, -256, LEAST, MOST}) {
            checks.due("clear(" + row + ")", x.clear(row), BAD);
            checks.due("nothing changes", Checks.state(x), "1..2 1+1 looks 2 result axyc");
        }
        checks.due("the text", x.clear(0), 3);
        checks.due("the pattern", x.clear(1), 3);
        checks.due("the replacement", x.clear(2), 2);
    }

    /** Promise 4: a search from 0 .. the text's length. */
    private void findFromTheEdges() {
        TextPatterns x = Checks.of("abc", "");
        for (int from = 0; from <= 3; from++) {
            checks.due("find(" + from + ")", x.find(from), 1);
            matchIs(x, from + ".." + from);
        }
        checks.due("one below", x.find(-1), BAD);
        checks.due("one above", x.find(4), BAD);
        x.clear(0);
        checks.due("an empty text's end", x.find(0), 1);
        checks.due("one above", x.find(1), BAD);
        checks.due("one below", x.find(-1), BAD);
        TextPatterns y = Checks.of("a".repeat(3000), "");
        checks.due("a long text's end", y.find(3000), 1);
        matchIs(y, "3000..3000");
        checks.due("one above", y.find(3001), BAD);
    }

    /** Promise 4: BAD when it is not 0 .. the text's length (the match stays). */
    private void findBadKeepsTheMatch() {
        TextPatterns x = Checks.of("abcb", "(b)()", "x");
        x.replace(1);
        x.find(0);
        for (int from : new int[] {-1, 5, -4096, 4096, 4097, LEAST, MOST}) {
            checks.due("find(" + from + ")", x.find(from), BAD);
            matchIs(x, "1..2 1+1 2+-1");
            checks.due("the result stays", Checks.result(x), "axcb");
        }
        x.next();
        checks.due("BAD is no search of next", x.find(-1), BAD);
        nextIs(x, "1 3..4 3+1 4+-1");
    }

    /** Promise 4: 0 when there is none, and no match then; WRONG or LONG, and no match then. */
    private void findWithoutAMatch() {
        TextPatterns x = longOne();
        Checks.set(x, 1, "c");
        checks.due("a match", x.find(0), 1);
        checks.due("none at the end", x.find(202), 0);
        matchIs(x, NO_MATCH);
        x.find(0);
        Checks.set(x, 1, "a*(");
        checks.due("wrong", x.find(0), WRONG);
        matchIs(x, NO_MATCH);
        checks.due("no capture of it", x.captures(), BAD);
        checks.due("looks up to it", x.looks(), 201);
        Checks.set(x, 1, LONG_PATTERN);
        checks.due("long", x.find(0), LONG);
        matchIs(x, NO_MATCH);
        checks.due("its looks", x.looks(), 100000);
        checks.due("not long from there", x.find(200), 0);
        checks.due("its looks", x.looks(), 8);
        // A match that find() had goes also when the rows are as they were.
        TextPatterns y = Checks.of("ab", "b");
        y.find(0);
        y.find(2);
        matchIs(y, NO_MATCH);
        TextPatterns z = Checks.of("ba", "b?a?(");
        Checks.set(z, 1, "^b");
        z.find(0);
        z.find(1);
        matchIs(z, NO_MATCH);
    }

    /** Promise 5: next() begins anew: at place 0, with no match before. */
    private void beginAnew() {
        TextPatterns x = Checks.of("aa", "a*");
        x.begin();
        nextIs(x, "1 0..2");
        x.begin();
        nextIs(x, "1 0..2");
        nextIs(x, "0 -1..-1");
        x.begin();
        x.begin();
        nextIs(x, "1 0..2");
        // The empty match at place 0 counts again, though the latest one ended there.
        TextPatterns y = Checks.of("", "");
        for (int n = 0; n < 3; n++) {
            nextIs(y, "1 0..0");
            y.begin();
        }
        TextPatterns z = Checks.of("ab", "%a", "x");
        z.replace(1);
        z.next();
        z.begin();
        checks.due("looks stay", z.looks(), 1);
        checks.due("the result stays", Checks.result(z), "xb");
    }

    /** Promise 6: a search from where the latest match of next() ended (place 0 at first). */
    private void nextFromWhereTheLatestEnded() {
        TextPatterns x = Checks.of("aabaa", "aa", "x");
        checks.due("a find is no match of next", x.find(3), 1);
        nextIs(x, "1 0..2");
        checks.due("its looks", x.looks(), 2);
        checks.due("a find between", x.find(0), 1);
        checks.due("a replace between", x.replace(9), 2);
        nextIs(x, "1 3..5");
        checks.due("its looks", x.looks(), 3);
        nextIs(x, "0 -1..-1");
        checks.due("at the text's end", x.looks(), 0);
    }

    /** Promise 6: a match that ends just where that one did does not count there. */
    private void nextEmptyMatches() {
        TextPatterns x = Checks.of("ab", "");
        nextIs(x, "1 0..0");
        nextIs(x, "1 1..1");
        nextIs(x, "1 2..2");
        nextIs(x, "0 -1..-1");
        TextPatterns y = Checks.of("aba", "a*()");
        nextIs(y, "1 0..1 1+-1");
        nextIs(y, "1 2..3 3+-1");
        nextIs(y, "0 -1..-1");
        // Only the way that is found counts: a- is empty there, and not tried for more.
        TextPatterns z = Checks.of("ab", "a-");
        nextIs(z, "1 0..0");
        nextIs(z, "1 1..1");
        nextIs(z, "1 2..2");
        nextIs(z, "0 -1..-1");
        TextPatterns end = Checks.of("ab", "$");
        nextIs(end, "1 2..2");
        nextIs(end, "0 -1..-1");
    }

    /** A search with ^, but for next(), where it is a single. */
    private void nextWithCircumflex() {
        TextPatterns x = Checks.of("aa", "^a");
        nextIs(x, "0 -1..-1");
        checks.due("^ was looked for", x.looks(), 2);
        TextPatterns y = Checks.of("^a^^a", "^+a");
        nextIs(y, "1 0..2");
        nextIs(y, "1 2..5");
        nextIs(y, "0 -1..-1");
        nextIs(Checks.of("a^", "^"), "1 1..2");
        nextIs(Checks.of("a", "^"), "0 -1..-1");
    }

    /** Promise 6: when there is no more, 0 again and again until begin(). */
    private void nextOverUntilBegin() {
        TextPatterns x = Checks.of("a", "b");
        nextIs(x, "0 -1..-1");
        Checks.set(x, 1, "a");
        nextIs(x, "0 -1..-1");
        Checks.type(x, 0, "a");
        nextIs(x, "0 -1..-1");
        checks.due("find finds", x.find(0), 1);
        nextIs(x, "0 -1..-1");
        checks.due("no looks", x.looks(), 0);
        checks.due("replace replaces", x.replace(1), 1);
        nextIs(x, "0 -1..-1");
        x.begin();
        nextIs(x, "1 0..1");
        nextIs(x, "1 1..2");
        nextIs(x, "0 -1..-1");
        nextIs(x, "0 -1..-1");
    }

    /** Promise 6: or it was WRONG, 0 again and again until begin(). */
    private void nextOverBehindWrong() {
        TextPatterns x = Checks.of("ab", "a");
        nextIs(x, "1 0..1");
        Checks.set(x, 1, "b(");
        nextIs(x, "-2 -1..-1");
        nextIs(x, "0 -1..-1");
        Checks.set(x, 1, "b");
        nextIs(x, "0 -1..-1");
        x.begin();
        nextIs(x, "1 1..2");
    }

    /** Promise 6: or LONG, 0 again and again until begin(). */
    private void nextOverBehindLong() {
        TextPatterns x = longOne();
        nextIs(x, "-4 -1..-1");
        checks.due("its looks", x.looks(), 100000);
        nextIs(x, "0 -1..-1");
        checks.due("no looks any more", x.looks(), 0);
        Checks.set(x, 1, "c");
        nextIs(x, "0 -1..-1");
        x.begin();
        nextIs(x, "1 200..201");
        Checks.set(x, 1, LONG_PATTERN);
        nextIs(x, "0 -1..-1");
        x.begin();
        nextIs(x, "-4 -1..-1");
    }

    /** Promise 6: (It goes on at that place also when rows were changed.) */
    private void nextWithChangedRows() {
        TextPatterns x = Checks.of("aabb", "aa");
        nextIs(x, "1 0..2");
        Checks.set(x, 1, "a*");
        // At place 2 it is empty and ends where the latest one did.
        nextIs(x, "1 3..3");
        Checks.set(x, 0, "xxxaa");
        nextIs(x, "1 3..5");
        Checks.type(x, 0, "a");
        nextIs(x, "1 5..6");
        nextIs(x, "0 -1..-1");
    }

    /** Promise 6: (as long as the text is shorter than that place: 0.) */
    private void nextWithAShorterText() {
        TextPatterns x = Checks.of("abc", "%a%a");
        nextIs(x, "1 0..2");
        Checks.set(x, 0, "a");
        Checks.set(x, 1, "");
        nextIs(x, "0 -1..-1");
        nextIs(x, "0 -1..-1");
        checks.due("no looks", x.looks(), 0);
        x.find(0);
        nextIs(x, "0 -1..-1");
        // Just as long as the place: a search there, where the empty match does not count.
        Checks.type(x, 0, "b");
        nextIs(x, "0 -1..-1");
        Checks.type(x, 0, "c");
        nextIs(x, "0 -1..-1");
        TextPatterns y = Checks.of("abc", "%a%a");
        nextIs(y, "1 0..2");
        Checks.set(y, 0, "a");
        nextIs(y, "0 -1..-1");
        Checks.set(y, 0, "xyz");
        Checks.set(y, 1, "");
        nextIs(y, "1 3..3");
        // Shorter again, and wrong: it does not come to that.
        y.begin();
        Checks.set(y, 1, "xyz");
        nextIs(y, "1 0..3");
        Checks.set(y, 1, "%");
        y.clear(0);
        nextIs(y, "0 -1..-1");
        Checks.set(y, 0, "xyz");
        nextIs(y, "-2 -1..-1");
    }
}
