/** Each promise of the document by hand-made runs: ordinary inputs, edges and wrong inputs. */
public final class PromisesTest {
    private static final int BAD = TextPatterns.BAD;
    private static final int WRONG = TextPatterns.WRONG;
    private static final int FULL = TextPatterns.FULL;
    private static final int LONG = TextPatterns.LONG;
    private static final String NO_MATCH = "-1..-1";

    private final Checks checks = new Checks();

    public static void main(String[] args) {
        PromisesTest test = new PromisesTest();
        test.newObject();
        test.typing();
        test.typingDropsTheMatch();
        test.clearing();
        test.finding();
        test.findingAnchored();
        test.findingBadPlaces();
        test.repeating();
        test.capturing();
        test.sameAsCapture();
        test.balancedPairs();
        test.borders();
        test.textEnd();
        test.wrongPatterns();
        test.wrongOnlyWhenComeTo();
        test.beginning();
        test.goingOn();
        test.goingOnWithChangedRows();
        test.replacing();
        test.replacingWithMarks();
        test.replacingWrong();
        test.replacingFull();
        test.replacingKeepsAndDrops();
        test.looking();
        test.lookingTooLong();
        test.lookingTooLongLast();
        test.theMatch();
        test.capturesOfTheMatch();
        test.resultBytes();
        test.singles();
        test.classes();
        test.sets();
        test.checks.end();
    }

    private void found(String text, String pattern, int from, String want) {
        checks.dueFound(text, pattern, from, want);
    }

    private void replaced(String text, String pattern, String by, int most, String want) {
        checks.dueReplaced(text, pattern, by, most, want);
    }

    private void holds(String pattern, String want) {
        checks.dueBytes(pattern, want);
    }

    private void newObject() {
        TextPatterns x = new TextPatterns();
        checks.due("new first", x.first(), BAD);
        checks.due("new last", x.last(), BAD);
        checks.due("new captures", x.captures(), BAD);
        checks.due("new capture", x.capture(0, 0), BAD);
        checks.due("new looks", x.looks(), 0);
        checks.due("new size", x.size(), 0);
        checks.due("new result", x.result(0), BAD);
        checks.due("new single", x.single(0), WRONG);
        for (int row = 0; row < 3; row++) {
            checks.due("new clear " + row, x.clear(row), 0);
        }
        checks.due("new next", x.next(), 1);
        checks.due("empty match", Checks.match(x), "0..0");
        checks.due("new replace", new TextPatterns().replace(5), 1);
        checks.due("new find", new TextPatterns().find(0), 1);
        checks.due("new find behind", new TextPatterns().find(1), BAD);
    }

    private void typing() {
        TextPatterns x = new TextPatterns();
        checks.due("type two", x.type(0, 0x6162L, 2), 2);
        checks.due("type lowest only", x.type(0, 0x7766554433226364L, 2), 4);
        checks.due("type pattern", x.type(1, 0x61626364L, 4), 4);
        checks.due("typed abcd", x.find(0), 1);
        checks.due("typed abcd", Checks.match(x), "0..4");
        checks.due("type eight negative", x.type(2, -1L, 8), 8);
        checks.due("type n 0", x.type(0, 0x61L, 0), BAD);
        checks.due("type n 9", x.type(0, 0x61L, 9), BAD);
        checks.due("type n negative", x.type(0, 0x61L, -1), BAD);
        checks.due("type n least", x.type(0, 0x61L, Integer.MIN_VALUE), BAD);
        checks.due("type n most", x.type(0, 0x61L, Integer.MAX_VALUE), BAD);
        checks.due("type row 3", x.type(3, 0x61L, 1), BAD);
        checks.due("type row -1", x.type(-1, 0x61L, 1), BAD);
        checks.due("text has", x.clear(0), 4);
        checks.due("replacement has", x.clear(2), 8);
        typingUntilFull(1, 512);
        typingUntilFull(2, 512);
    }

    private void typingUntilFull(int row, int most) {
        TextPatterns x = new TextPatterns();
        for (int i = 1; i < most / 8; i++) {
            x.type(row, 0x6161616161616161L, 8);
        }
        checks.due("nearly full", x.type(row, 0x61616161616161L, 7), most - 1);
        checks.due("too many", x.type(row, 0x6161L, 2), FULL);
        checks.due("too many, and BAD", x.type(row, 0x6161L, 9), BAD);
        checks.due("just full", x.type(row, 0x61L, 1), most);
        checks.due("over full", x.type(row, 0x61L, 1), FULL);
        checks.due("still full", x.clear(row), most);
        checks.due("room again", x.type(row, 0x61L, 1), 1);
    }

    private void typingDropsTheMatch() {
        for (int row = 0; row < 3; row++) {
            TextPatterns x = Checks.of("aaa", "a");
            x.find(1);
            checks.due("BAD keeps", x.type(row, 0x61L, 0), BAD);
            checks.due("BAD keeps", Checks.match(x), "1..2");
            x.type(row, 0x61L, 1);
            checks.due("type drops", Checks.match(x), NO_MATCH);
        }
        TextPatterns x = Checks.of("a", "a");
        Checks.type(x, 2, "x".repeat(512));
        x.find(0);
        checks.due("FULL", x.type(2, 0x61L, 1), FULL);
        checks.due("FULL keeps", Checks.match(x), "0..1");
        // 4096 bytes of text are all that 512 calls can type.
        TextPatterns y = new TextPatterns();
        checks.due("text full", Checks.type(y, 0, "x".repeat(4096)), 4096);
        checks.due("text over full", y.type(0, 0x61L, 1), FULL);
    }

    private void clearing() {
        for (int row = 0; row < 3; row++) {
            TextPatterns x = Checks.of("abc", "b", "xy");
            x.find(0);
            checks.due("clear BAD", x.clear(3), BAD);
            checks.due("clear BAD", x.clear(-1), BAD);
            checks.due("clear BAD keeps", Checks.match(x), "1..2");
            checks.due("clear " + row, x.clear(row), row == 0 ? 3 : row == 1 ? 1 : 2);
            checks.due("clear drops", Checks.match(x), NO_MATCH);
            checks.due("clear again", x.clear(row), 0);
        }
    }

    private void finding() {
        found("hello world", "o w", 0, "1 4..7 looks 7");
        found("hello", "l", 3, "1 3..4 looks 1");
        found("hello", "l", 4, "0 -1..-1 looks 1");
        found("hello", "", 5, "1 5..5 looks 0");
        found("", "", 0, "1 0..0 looks 0");
        found("", "a", 0, "0 -1..-1 looks 0");
        found("a.b", "%.", 0, "1 1..2 looks 2");
        found("a\u00ffb", "\u00ff", 0, "1 1..2 looks 2");
        found("a\0b", "\0", 0, "1 1..2 looks 2");
        found("x$y", "$y", 0, "1 1..3 looks 3");
        found("a*]?", "*", 0, "1 1..2 looks 2");
        found("a*]?", "]?", 0, "1 0..0 looks 1");
        found("a*]?", "?", 0, "1 3..4 looks 4");
        found("a+-", "+-", 0, "1 0..0 looks 0");
        found("a**", "**", 1, "1 1..3 looks 2");
        found("a0b", "%0", 0, "1 1..2 looks 2");
    }

    private void findingAnchored() {
        found("abab", "^b", 0, "0 -1..-1 looks 1");
        found("abab", "^b", 1, "1 1..2 looks 1");
        found("abab", "^", 2, "1 2..2 looks 0");
        found("a^b", "%^", 0, "1 1..2 looks 2");
        found("a^b", "a^", 0, "1 0..2 looks 2");
        found("^^", "^^", 0, "1 0..1 looks 1");
        found("*a", "^*", 0, "1 0..1 looks 1");
        found("ab", "^(a)b", 0, "1 0..2 0+1 looks 2");
    }

    private void findingBadPlaces() {
        TextPatterns x = Checks.of("abc", "b");
        x.find(0);
        for (int from : new int[] {-1, 4, Integer.MIN_VALUE, Integer.MAX_VALUE}) {
            checks.due("find(" + from + ")", x.find(from), BAD);
            checks.due("BAD keeps the match", Checks.match(x), "1..2");
        }
        checks.due("none", x.find(2), 0);
        checks.due("0 drops the match", Checks.match(x), NO_MATCH);
        x.find(0);
        Checks.set(x, 1, "(");
        checks.due("wrong", x.find(0), WRONG);
        checks.due("WRONG has no match", Checks.match(x), NO_MATCH);
    }

    private void repeating() {
        found("aaab", "a*", 0, "1 0..3 looks 4");
        found("aaa", "a*", 0, "1 0..3 looks 3");
        found("aaab", "a+", 0, "1 0..3 looks 4");
        found("baaa", "a+", 0, "1 1..4 looks 4");
        found("aaab", "a-", 0, "1 0..0 looks 0");
        found("aaab", "a-b", 0, "1 0..4 looks 7");
        found("aaab", "a?b", 2, "1 2..4 looks 2");
        found("aaab", "a?b", 3, "1 3..4 looks 2");
        found("aaab", "a?aaab", 0, "1 0..4 looks 8");
        found("aaa", "a*a", 0, "1 0..3 looks 4");
        found("aaa", "a+a", 0, "1 0..3 looks 4");
        found("aaa", "a+aaa", 0, "0 -1..-1 looks 10");
        found("<a><b>", "<.*>", 0, "1 0..6 looks 7");
        found("<a><b>", "<.->", 0, "1 0..3 looks 4");
        found("aXbX", ".*X", 0, "1 0..4 looks 5");
        found("ab12", "%a*%d+", 0, "1 0..4 looks 5");
        found("x", "x?x?x?", 0, "1 0..1 looks 1");
        found("12", "[0-9]*[0-9]", 0, "1 0..2 looks 3");
    }

    private void capturing() {
        found("key = value", "(%w+) = (%w+)", 0, "1 0..11 0+3 6+5 looks 12");
        found("abc", "((a)(b))c", 0, "1 0..3 0+2 0+1 1+1 looks 3");
        found("abc", "()a()b()", 0, "1 0..2 0+-1 1+-1 2+-1 looks 2");
        found("abc", "(()b)", 0, "1 1..2 1+1 1+-1 looks 2");
        found("aab", "(a*)(a)b", 0, "1 0..3 0+1 1+1 looks 6");
        found("a*", "(a)*", 0, "1 0..2 0+1 looks 2");
        found("ab", "(a?)(a?)b", 0, "1 0..2 0+1 1+0 looks 3");
        found("x", "()".repeat(32), 0, "1 0..0" + " 0+-1".repeat(32) + " looks 0");
        found("x", "()".repeat(33), 0, "-2 -1..-1 looks 0");
        found("x", "(x)" + "()".repeat(31) + "(", 0, "-2 -1..-1 looks 1");
        found("x", "(".repeat(32) + ")".repeat(31) + "y)", 0, "0 -1..-1 looks 1");
    }

    private void sameAsCapture() {
        found("abcabc", "(abc)%1", 0, "1 0..6 0+3 looks 6");
        found("hello", "(%a)%1", 0, "1 2..4 2+1 looks 6");
        found("aXa", "(a)(X)%1", 0, "1 0..3 0+1 1+1 looks 3");
        found("abab", "(a)(b)%1%2", 0, "1 0..4 0+1 1+1 looks 4");
        found("ab", "(ab)%1", 0, "0 -1..-1 looks 3");
        found("abax", "(ab)%1", 0, "0 -1..-1 looks 8");
        found("b", "(a*)%1b", 0, "1 0..1 0+0 looks 2");
        found("aa*", "(a)%1*", 0, "1 0..3 0+1 looks 3");
        found("a", "(a%1)", 0, "-2 -1..-1 looks 1");
        found("a", "%1", 0, "-2 -1..-1 looks 0");
        found("aa", "(a)%2", 0, "-2 -1..-1 looks 1");
        found("aa", "()%1", 0, "-2 -1..-1 looks 0");
        TextPatterns x = Checks.of("aaa", "(a)(a)%2");
        checks.due("two captures", x.find(0), 1);
        Checks.set(x, 1, "(a)%2");
        checks.due("an earlier pattern's capture is not there", x.find(0), WRONG);
        found("ii", "(((((((((i)))))))))%9", 0,
            "1 0..2" + " 0+1".repeat(9) + " looks 2");
    }

    private void balancedPairs() {
        found("f(a(b)c)d", "%b()", 0, "1 1..8 looks 8");
        found("f(a(b)c", "%b()", 0, "1 3..6 looks 11");
        found("\"a\"b\"", "%b\"\"", 0, "1 0..3 looks 3");
        found("xx", "%bxx", 0, "1 0..2 looks 2");
        found("x", "%bxx", 0, "0 -1..-1 looks 1");
        found("", "%b()", 0, "0 -1..-1 looks 0");
        found(")(", "%b()", 0, "0 -1..-1 looks 2");
        found("()*", "%b()*", 0, "1 0..3 looks 3");
        found("%a)", "%b%)", 0, "1 0..3 looks 3");
        found("((", "%b((", 0, "1 0..2 looks 2");
    }

    private void borders() {
        found("THE (quick) fox", "%f[%a]%a+%f[%A]", 4, "1 5..10 looks 9");
        found("a", "%f[a]", 0, "1 0..0 looks 1");
        found("aa", "%f[a]", 1, "0 -1..-1 looks 2");
        found("ab", "%f[%z]", 0, "0 -1..-1 looks 3");
        found("ab", "%f[%c]", 0, "1 2..2 looks 3");
        found("", "%f[\0]", 0, "0 -1..-1 looks 1");
        found("b", "%f[\0]", 0, "1 1..1 looks 2");
        found("\0b", "%f[^\0]", 0, "1 1..1 looks 2");
        found(" a*", "%f[a]a*", 0, "1 1..2 looks 4");
        found(" a*", "%f[a]*", 0, "0 -1..-1 looks 5");
    }

    private void textEnd() {
        found("aba", "a$", 0, "1 2..3 looks 3");
        found("aba", "$", 0, "1 3..3 looks 0");
        found("aba", "^$", 0, "0 -1..-1 looks 0");
        found("aba", "^$", 3, "1 3..3 looks 0");
        found("a$", "a%$", 0, "1 0..2 looks 2");
        found("a$b", "$b$", 0, "1 1..3 looks 3");
        found("$$", "$*", 0, "1 0..2 looks 2");
        found("a", "(a$)", 0, "0 -1..-1 looks 1");
        found("a$", "(a$)", 0, "1 0..2 0+2 looks 2");
    }

    private void wrongPatterns() {
        String[] wrong = {"%", "[a", "[", "[]", "[^]", "[^", "[%]", "[a%", "[a-%]", "%f", "%fa",
            "%f[", "%f[a", "%f%a", "%b", "%bx", ")", "())", "(", "(()", "(%1)", "%1", "%9", "a*)",
            "a-(", "^)", "^%"};
        for (String pattern : wrong) {
            TextPatterns x = Checks.of("", pattern);
            checks.due("find of " + pattern, x.find(0), WRONG);
            checks.due("replace of " + pattern, x.replace(1), WRONG);
            checks.due("size of " + pattern, x.size(), 0);
            if (pattern.charAt(0) != '^') {
                checks.due("next of " + pattern, x.next(), WRONG);
                checks.due("next again of " + pattern, x.next(), 0);
            }
        }
        found("aab]-", "(a", 0, "-2 -1..-1 looks 1");
        found("aab]-", "a)", 0, "-2 -1..-1 looks 1");
        found("ab", "(a)b)", 0, "-2 -1..-1 looks 2");
    }

    private void wrongOnlyWhenComeTo() {
        found("b", "a%", 0, "0 -1..-1 looks 1");
        found("bab", "a%", 0, "-2 -1..-1 looks 2");
        found("b", "a[", 0, "0 -1..-1 looks 1");
        found("b", "(a", 0, "0 -1..-1 looks 1");
        found("b", "a)", 0, "0 -1..-1 looks 1");
        found("b", "a%1", 0, "0 -1..-1 looks 1");
        found("b", "a%f", 0, "0 -1..-1 looks 1");
        replaced("bbb", "a%", "x", 9, "0 bbb");
        replaced("bbb", "%", "x", 0, "0 bbb");
    }

    private void beginning() {
        TextPatterns x = Checks.of("ab", "%a");
        x.next();
        x.next();
        checks.due("no more", x.next(), 0);
        x.begin();
        checks.due("anew", x.next(), 1);
        checks.due("anew", Checks.match(x), "0..1");
        x.begin();
        checks.due("begin keeps the match", Checks.match(x), "0..1");
        Checks.set(x, 1, "");
        x.next();
        checks.due("empty at 0", Checks.match(x), "0..0");
        x.next();
        checks.due("empty at 1", Checks.match(x), "1..1");
        x.begin();
        x.next();
        checks.due("no match before", Checks.match(x), "0..0");
        x.begin();
        x.next();
        checks.due("no match before, not that at 0 either", Checks.match(x), "0..0");
    }

    private void goingOn() {
        TextPatterns x = Checks.of("abxxc", "x*");
        String[] want = {"1 0..0", "1 1..1", "1 2..4", "1 5..5", "0 -1..-1", "0 -1..-1"};
        for (String line : want) {
            int answer = x.next();
            checks.due("next of x*", answer + " " + Checks.match(x), line);
        }
        checks.due("no looks any more", x.looks(), 0);
        TextPatterns y = Checks.of("a^b", "^b");
        checks.due("^ is a single for next", y.next(), 1);
        checks.due("^ is a single for next", Checks.match(y), "1..3");
        Checks.set(y, 1, "(");
        checks.due("wrong", y.next(), WRONG);
        Checks.set(y, 1, "");
        checks.due("over behind WRONG", y.next(), 0);
        checks.due("find beside next", y.find(1), 1);
        checks.due("over, no match", y.next(), 0);
        checks.due("over, no match", Checks.match(y), NO_MATCH);
        y.begin();
        checks.due("begun again", y.next(), 1);
    }

    private void goingOnWithChangedRows() {
        TextPatterns x = Checks.of("aaaa", "aa");
        x.next();
        x.find(0);
        x.replace(1);
        Checks.set(x, 0, "b");
        checks.due("shorter than the place", x.next(), 0);
        checks.due("no match", Checks.match(x), NO_MATCH);
        checks.due("no looks", x.looks(), 0);
        Checks.type(x, 0, "baa");
        checks.due("goes on there", x.next(), 1);
        checks.due("goes on there", Checks.match(x), "2..4");
        Checks.set(x, 1, "");
        checks.due("ends where the latest did", x.next(), 0);
        Checks.type(x, 0, "c");
        checks.due("over stays over", x.next(), 0);
        TextPatterns y = Checks.of("ab", "a");
        y.next();
        Checks.set(y, 1, "");
        checks.due("empty there does not count", y.next(), 1);
        checks.due("one further", Checks.match(y), "2..2");
    }

    private void replacing() {
        replaced("hello world", "o", "0", 9, "2 hell0 w0rld");
        replaced("hello world", "o", "0", 1, "1 hell0 world");
        replaced("hello world", "o", "0", 0, "0 hello world");
        replaced("hello world", "z", "0", 9, "0 hello world");
        replaced("hello", "l", "", Integer.MAX_VALUE, "2 heo");
        replaced("abxxc", "x*", "-", 99, "4 -a-b-c-");
        replaced("abc", "", "-", 99, "4 -a-b-c-");
        replaced("abc", "", "-", 2, "2 -a-bc");
        replaced("", "", "x", 9, "1 x");
        replaced("", "a", "x", 9, "0 ");
        replaced("aaa", "^a", "x", 9, "1 xaa");
        replaced("baa", "^a", "x", 9, "0 baa");
        replaced("aa", "^", "x", 9, "1 xaa");
        replaced("a b", "$", "!", 9, "1 a b!");
        replaced("\0\u00ff", "\u00ff", "\u00fe\u0080", 9, "1 \0\u00fe\u0080");
        TextPatterns x = Checks.of("abc", "b", "%0%0");
        checks.due("replace", x.replace(3), 1);
        checks.due("text stays", x.clear(0), 3);
        checks.due("result stays", Checks.result(x), "abbc");
    }

    private void replacingWithMarks() {
        replaced("key = value", "(%w+) = (%w+)", "%2 = %1", 1, "1 value = key");
        replaced("abc", "%w", "%0%0", 9, "3 aabbcc");
        replaced("abc", "%w", "<%1>", 9, "3 <a><b><c>");
        replaced("abc", "b", "100%%", 9, "1 a100%c");
        replaced("THE", "()%a+()", "%1.%2", 9, "1 1.4");
        replaced("x".repeat(9) + "ab", "a()b", "%1", 1, "1 xxxxxxxxx11");
        replaced("x".repeat(99) + "ab", "a()b", "%1", 1, "1 " + "x".repeat(99) + "101");
        replaced("ab", "(a)()(b)", "%3%2%1%0", 1, "1 b2aab");
        replaced("ab", "a(x*)b", "<%1>", 1, "1 <>");
        replaced("a", "(((((((((a)))))))))", "%9", 1, "1 a");
        TextPatterns x = new TextPatterns();
        Checks.type(x, 0, "x".repeat(2500));
        Checks.type(x, 1, "()$");
        Checks.type(x, 2, "%1");
        checks.due("number of four", x.replace(1), 1);
        checks.due("number of four", Checks.result(x).substring(2500), "2501");
    }

    private void replacingWrong() {
        for (String by : new String[] {"%", "%x", "a%", "%2", "%9", "% ", "%-", "%%%"}) {
            replaced("aab", "b", by, 9, "-2 ");
            replaced("aab", "c", by, 9, "0 aab");
            replaced("aab", "b", by, 0, "0 aab");
        }
        replaced("aab", "(b)", "%2", 9, "-2 ");
        replaced("aab", "(b)", "%1", 9, "1 aab");
        TextPatterns x = Checks.of("ab", "a", "x");
        x.replace(1);
        checks.due("BAD", x.replace(-1), BAD);
        checks.due("BAD", x.replace(Integer.MIN_VALUE), BAD);
        checks.due("BAD keeps the result", Checks.result(x), "xb");
        Checks.set(x, 1, "%");
        checks.due("WRONG", x.replace(1), WRONG);
        checks.due("WRONG empties the result", x.size(), 0);
        checks.due("no byte then", x.result(0), BAD);
    }

    private void replacingFull() {
        TextPatterns x = new TextPatterns();
        Checks.type(x, 0, "a".repeat(16));
        Checks.type(x, 1, "a");
        Checks.type(x, 2, "x".repeat(512));
        checks.due("just 8192", x.replace(99), 16);
        checks.due("just 8192", x.size(), 8192);
        checks.due("its last", x.result(8191), 'x');
        checks.due("behind its last", x.result(8192), BAD);
        Checks.type(x, 0, "b");
        checks.due("8193", x.replace(99), FULL);
        checks.due("8193", x.size(), 0);
        checks.due("fewer fit", x.replace(15), 15);
        checks.due("fewer fit", x.size(), 15 * 512 + 2);
        Checks.type(x, 0, "a");
        checks.due("full in a replacement", x.replace(99), FULL);
    }

    private void replacingKeepsAndDrops() {
        TextPatterns x = Checks.of("ab", "b", "x");
        x.find(0);
        x.replace(-1);
        checks.due("BAD keeps the match", Checks.match(x), "1..2");
        x.replace(1);
        checks.due("replace drops the match", Checks.match(x), NO_MATCH);
        x.clear(0);
        x.clear(1);
        x.clear(2);
        x.find(0);
        checks.due("the result stays", Checks.result(x), "ax");
    }

    private void looking() {
        TextPatterns x = Checks.of("aaab", "b", "x");
        x.find(0);
        checks.due("find", x.looks(), 4);
        x.find(9);
        checks.due("a find that is BAD makes none", x.looks(), 0);
        x.next();
        checks.due("next", x.looks(), 4);
        x.next();
        checks.due("next at the text's end", x.looks(), 0);
        x.replace(9);
        checks.due("replace in all", x.looks(), 4);
        x.replace(-1);
        checks.due("a replace that is BAD makes none", x.looks(), 0);
        x.replace(9);
        Checks.set(x, 1, "a");
        x.single(97);
        x.begin();
        checks.due("others leave it", x.looks(), 4);
        x.replace(2);
        checks.due("no look behind the last one replaced", x.looks(), 2);
    }

    private void lookingTooLong() {
        TextPatterns x = Checks.of("a".repeat(60), "a-a-a-a-b");
        checks.due("too long", x.find(0), LONG);
        checks.due("too long", x.looks(), 100000);
        checks.due("no match", Checks.match(x), NO_MATCH);
        checks.due("next too long", x.next(), LONG);
        checks.due("over then", x.next(), 0);
        checks.due("replace too long", x.replace(1), LONG);
        checks.due("replace too long", x.size(), 0);
        // m a's at a place make m + 1 looks of a* and m + 1 of b; a c makes one of each.
        String just = "a".repeat(314) + "c".repeat(231);
        found(just, "a*b", 0, "0 -1..-1 looks 100000");
        found(just + "c", "a*b", 0, "-4 -1..-1 looks 100000");
        found(just + "b", "a*b", 0, "-4 -1..-1 looks 100000");
        // m a's at a place make m + 1 looks of the border and m of a-: in all (n + 1) * (n + 1).
        found("a".repeat(315), "a-%f[\1]", 0, "0 -1..-1 looks 99856");
        found("a".repeat(316), "a-%f[\1]", 0, "-4 -1..-1 looks 100000");
        // The match at the last place is paid for by the looks before it, not by new ones.
        found(just, "a*b?$", 0, "1 545..545 looks 100000");
    }

    /** The 100001st look is the last one that the pattern would make, and of each special item. */
    private void lookingTooLongLast() {
        // c: 2 looks; m a's up to the text's end: m of a*, m + 1 of the border.
        String border = "c".repeat(388) + "a".repeat(314);
        found(border, "a*%f[\1]", 0, "-4 -1..-1 looks 100000");
        found(border, "a*%f[\1]", 1, "0 -1..-1 looks 99999");
        // c: 3 looks; m a's up to the text's end: 1 of b?, m of a*, m of the pair's first byte.
        String opening = "c".repeat(259) + "a".repeat(314);
        found(opening, "b?a*%bxy", 0, "-4 -1..-1 looks 100000");
        found(opening, "b?a*%bxy", 1, "0 -1..-1 looks 99998");
        // n of a*, then the pair goes over 1, 2, .. n bytes.
        found("a".repeat(445), "^a*%bac", 0, "0 -1..-1 looks 99680");
        found("a".repeat(446), "^a*%bac", 0, "-4 -1..-1 looks 100000");
        // The capture's 139 bytes are looked for from each place back to that behind the c.
        String had = "a".repeat(139);
        String same = had + "c" + ("a".repeat(138) + "d").repeat(11) + "d".repeat(6);
        found(same, "^(" + had + ")c.*%1", 0, "0 -1..-1 looks 99927");
        found(same + "d", "^(" + had + ")c.*%1", 0, "-4 -1..-1 looks 100000");
    }

    private void theMatch() {
        TextPatterns x = Checks.of("one two", "%a+");
        x.find(2);
        checks.due("first", x.first(), 2);
        checks.due("last", x.last(), 3);
        x.find(3);
        checks.due("first", x.first(), 4);
        checks.due("last", x.last(), 7);
        x.find(7);
        checks.due("first of none", x.first(), BAD);
        checks.due("last of none", x.last(), BAD);
        x.next();
        checks.due("first of next", x.first(), 0);
        checks.due("last of next", x.last(), 3);
        checks.due("single leaves the match", x.single(97), WRONG);
        checks.due("single leaves the match", Checks.match(x), "0..3");
    }

    private void capturesOfTheMatch() {
        TextPatterns x = Checks.of("xab", "(a)()(b*)");
        checks.due("before", x.captures(), BAD);
        checks.due("before", x.capture(0, 0), BAD);
        x.find(0);
        checks.due("captures", x.captures(), 3);
        checks.due("capture 0 from", x.capture(0, 0), 1);
        checks.due("capture 0 length", x.capture(0, 1), 1);
        checks.due("place", x.capture(1, 0), 2);
        checks.due("place's length", x.capture(1, 1), -1);
        checks.due("capture 2 from", x.capture(2, 0), 2);
        checks.due("capture 2 length", x.capture(2, 1), 1);
        for (int k : new int[] {-1, 3, 32, Integer.MIN_VALUE, Integer.MAX_VALUE}) {
            checks.due("no capture " + k, x.capture(k, 0), BAD);
            checks.due("no capture " + k, x.capture(k, 1), BAD);
        }
        for (int what : new int[] {-1, 2, Integer.MIN_VALUE, Integer.MAX_VALUE}) {
            checks.due("another what", x.capture(0, what), BAD);
        }
        Checks.set(x, 1, "a");
        checks.due("dropped", x.captures(), BAD);
        checks.due("dropped", x.capture(0, 0), BAD);
        checks.due("dropped", x.capture(0, 1), BAD);
        x.find(0);
        checks.due("none in it", x.captures(), 0);
        checks.due("none in it", x.capture(0, 0), BAD);
    }

    private void resultBytes() {
        TextPatterns x = Checks.of("a\u00ff\0", "a", "\u0080");
        x.replace(1);
        checks.due("size", x.size(), 3);
        checks.due("byte 0", x.result(0), 128);
        checks.due("byte 1", x.result(1), 255);
        checks.due("byte 2", x.result(2), 0);
        checks.due("byte 3", x.result(3), BAD);
        checks.due("byte -1", x.result(-1), BAD);
        checks.due("byte least", x.result(Integer.MIN_VALUE), BAD);
        checks.due("byte most", x.result(Integer.MAX_VALUE), BAD);
        x.replace(0);
        checks.due("the latest", x.result(0), 'a');
    }

    private void singles() {
        TextPatterns x = Checks.of("", "");
        for (int b : new int[] {-1, 256, Integer.MIN_VALUE, Integer.MAX_VALUE}) {
            checks.due("BAD first", x.single(b), BAD);
        }
        checks.due("no single", x.single(0), WRONG);
        String[] none = {"ab", "a*", "a?", "a-", "a+", "..", "%", "%aa", "[a", "[]", "[^]", "[a]b",
            "[a]]", "()", "^a", "a$", "%f[a]", "%bxy", "(a)"};
        for (String pattern : none) {
            Checks.set(x, 1, pattern);
            checks.due("single of " + pattern, x.single(97), WRONG);
            checks.due("BAD before WRONG", x.single(256), BAD);
        }
        for (String itself : new String[] {"(", ")", "$", "^", "*", "+", "-", "?", "]", "a", "\0",
            "\u00ff", " "}) {
            holds(itself, "" + (int) itself.charAt(0));
        }
        for (char named : "bfznt0123456789().%[]^$*+-?BFZ\0\u00ff".toCharArray()) {
            holds("%" + named, "" + (int) named);
        }
        holds(".", "0-255");
    }

    private void classes() {
        holds("%a", "65-90 97-122");
        holds("%d", "48-57");
        holds("%l", "97-122");
        holds("%u", "65-90");
        holds("%w", "48-57 65-90 97-122");
        holds("%s", "9-13 32");
        holds("%x", "48-57 65-70 97-102");
        holds("%g", "33-126");
        holds("%p", "33-47 58-64 91-96 123-126");
        holds("%c", "0-31 127");
        holds("%A", "0-64 91-96 123-255");
        holds("%D", "0-47 58-255");
        holds("%L", "0-96 123-255");
        holds("%U", "0-64 91-255");
        holds("%W", "0-47 58-64 91-96 123-255");
        holds("%S", "0-8 14-31 33-255");
        holds("%X", "0-47 58-64 71-96 103-255");
        holds("%G", "0-32 127-255");
        holds("%P", "0-32 48-57 65-90 97-122 127-255");
        holds("%C", "32-126 128-255");
    }

    private void sets() {
        holds("[a]", "97");
        holds("[abc]", "97-99");
        holds("[a-c]", "97-99");
        holds("[^a-c]", "0-96 100-255");
        holds("[c-a]", "");
        holds("[a-a]", "97");
        holds("[^c-a]", "0-255");
        holds("[]]", "93");
        holds("[^]]", "0-92 94-255");
        holds("[]a]", "93 97");
        holds("[]-a]", "93-97");
        holds("[a-]", "45 97");
        holds("[-a]", "45 97");
        holds("[--/]", "45-47");
        holds("[a-c-e]", "45 97-99 101");
        holds("[%a-z]", "45 65-90 97-122");
        holds("[%]]", "93");
        holds("[^%]]", "0-92 94-255");
        holds("[%%]", "37");
        holds("[%d%l]", "48-57 97-122");
        holds("[%D]", "0-47 58-255");
        holds("[^%D]", "48-57");
        holds("[%d%D]", "0-255");
        holds("[a^]", "94 97");
        holds("[^^]", "0-93 95-255");
        holds("[%^a]", "94 97");
        holds("[.]", "46");
        holds("[$()*+?]", "36 40-43 63");
        holds("[[]", "91");
        holds("[\0-\u00ff]", "0-255");
        holds("[\u0080-\u00ff]", "128-255");
        holds("[%1%b%f]", "49 98 102");
        // - behind a byte takes the byte behind it, a % too: then d is itself.
        holds("[!-%d]", "33-37 100");
        holds("[a-%]]", "93");
        // The % that is left alone before the closing ] is a byte: itself.
        holds("[!-%%]", "33-37");
        holds("[a-%%]", "37");
    }
}
