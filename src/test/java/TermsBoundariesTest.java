/** The Terms: each sentence that names a boundary has a test, and stands above it. */
public final class TermsBoundariesTest {
    private static final int BAD = TextPatterns.BAD;
    private static final int WRONG = TextPatterns.WRONG;
    private static final int FULL = TextPatterns.FULL;
    private static final int LONG = TextPatterns.LONG;
    private static final String NONE = "0 -1..-1 looks ";
    private static final String IS_WRONG = "-2 -1..-1 looks ";
    private static final String TOO_LONG = "-4 -1..-1 looks 100000";

    private final Checks checks = new Checks();

    public static void main(String[] args) {
        TermsBoundariesTest test = new TermsBoundariesTest();
        test.calls();
        test.rowsThatAreFull();
        test.leastAndMostBytes();
        test.classesInAllPlaces();
        test.anyByte();
        test.percentAndAByte();
        test.setsFirstByte();
        test.setsPercent();
        test.setsSpans();
        test.setsOthers();
        test.setsLength();
        test.perhaps();
        test.many();
        test.atLeastOne();
        test.fewest();
        test.places();
        test.latestOpen();
        test.same();
        test.pairs();
        test.borders();
        test.textEnd();
        test.bytesWhereAnItemBegins();
        test.firstWay();
        test.looksAtTheTextsEnd();
        test.looksOfRepeats();
        test.looksOfSpecials();
        test.wrongEnds();
        test.wrongBorders();
        test.wrongClosing();
        test.wrongThirtyThird();
        test.wrongSame();
        test.wrongOpenAtTheEnd();
        test.wrongOnlyWhenComeTo();
        test.searches();
        test.fixedSearches();
        test.mostLooks();
        test.mostLooksOfEachItem();
        test.mostLooksOfOneCall();
        test.checks.end();
    }

    private void found(String text, String pattern, int from, String want) {
        checks.dueFound(text, pattern, from, want);
    }

    private void bytes(String pattern, String want) {
        checks.dueBytes(pattern, want);
    }

    private void wrong(String text, String pattern, int looks) {
        found(text, pattern, 0, IS_WRONG + looks);
    }

    /** An object is used for at most 512 calls after it has been made. */
    private void calls() {
        TextPatterns x = new TextPatterns();
        for (int call = 1; call <= 510; call++) {
            checks.due("call " + call, x.type(0, -1L, 8), 8 * call);
        }
        checks.due("call 511", x.find(4080), 1);
        checks.due("call 512", x.last(), 4080);
    }

    /** THE TEXT has at most 4096 bytes, THE PATTERN and THE REPLACEMENT 512 each. */
    private void rowsThatAreFull() {
        TextPatterns x = Checks.of("x".repeat(4095) + "y", "y");
        checks.due("the text's 4097th", x.type(0, 'z', 1), FULL);
        checks.due("the text's last", x.find(0), 1);
        checks.due("the text's last", Checks.match(x), "4095..4096");
        checks.due("looks over a full text", x.looks(), 4096);
        checks.due("at a full text's end", x.find(4096), 0);
        checks.due("behind a full text", x.find(4097), BAD);
        // From place 0, 2, .. on 512, 510, .. bytes are as the pattern's up to the last one.
        String plain = "ab".repeat(256);
        found("c" + plain, plain, 0, "1 1..513 looks 513");
        found("ab".repeat(255) + "ac", plain, 0, NONE + (256 * 257 + 256));
        checks.due("the pattern's 513th", Checks.of("", plain).type(1, 'a', 1), FULL);
        checks.dueReplaced("-", "-", plain, 1, "1 " + plain);
        checks.due("the replacement's 513th", Checks.of("", "", plain).type(2, 'a', 1), FULL);
    }

    /** Bytes are 0 .. 255; places are numbered from 0. */
    private void leastAndMostBytes() {
        found("\0\u00ff", "\0\u00ff", 0, "1 0..2 looks 2");
        found("\u00ff\0", "\0", 0, "1 1..2 looks 2");
        found("\0\u00ff", "\u00ff", 0, "1 1..2 looks 2");
        found("\u007f\u0080", "\u0080", 0, "1 1..2 looks 2");
        found("\u0080", "[\u0080-\u00ff]", 0, "1 0..1 looks 1");
        found("\u007f", "[\u0080-\u00ff]", 0, NONE + 1);
        checks.dueReplaced("\0\u00ff", ".", "\u00ff%0\0", 9, "2 \u00ff\0\0\u00ff\u00ff\0");
    }

    /** CLASSES: a byte is in one for find() as it is for single(), alone and in a set. */
    private void classesInAllPlaces() {
        for (char name : "adluwsxgpcADLUWSXGPC".toCharArray()) {
            TextPatterns alone = Checks.of("", "%" + name);
            TextPatterns inSet = Checks.of("", "[%" + name + "]");
            TextPatterns others = Checks.of("", "[^%" + name + "]");
            for (int b = 0; b < 256; b++) {
                int in = Checks.of("" + (char) b, "%" + name).find(0);
                checks.due(b + " in %" + name, alone.single(b), in);
                checks.due(b + " in [%" + name + "]", inSet.single(b), in);
                checks.due(b + " in [^%" + name + "]", others.single(b), 1 - in);
            }
        }
    }

    /** . (any byte). */
    private void anyByte() {
        for (int b = 0; b < 256; b++) {
            found("" + (char) b, ".", 0, "1 0..1 looks 1");
        }
        found("", ".", 0, NONE + 0);
        bytes(".", "0-255");
        bytes("%.", "46");
        bytes("[.]", "46");
    }

    /** % and a byte: a class, or, if the byte names none, that byte. */
    private void percentAndAByte() {
        for (int b = 0; b < 256; b++) {
            if ("adluwsxgpcADLUWSXGPC".indexOf(b) < 0) {
                bytes("%" + (char) b, "" + b);
                bytes("[%" + (char) b + "]", "" + b);
            }
        }
    }

    /** A set closes with the first ] which is not the first byte there. */
    private void setsFirstByte() {
        bytes("[]]", "93");
        bytes("[^]]", "0-92 94-255");
        bytes("[]]]", "wrong");
        bytes("[a]]", "wrong");
        found("]]", "[]]]", 0, "1 0..2 looks 2");
        found("a]", "[a]]", 0, "1 0..2 looks 2");
        found("a]", "[^]]]", 0, "1 0..2 looks 2");
        wrong("a", "[]", 0);
        wrong("a", "[^]", 0);
        wrong("a", "[]a", 0);
        wrong("a", "[^]a", 0);
        bytes("[^^]", "0-93 95-255");
        bytes("[a^]", "94 97");
        bytes("[[]", "91");
    }

    /** Nor taken by a % before it (% takes the byte behind it, whatever it is). */
    private void setsPercent() {
        bytes("[%]]", "93");
        bytes("[^%]]", "0-92 94-255");
        bytes("[%%]", "37");
        bytes("[%%%]]", "37 93");
        bytes("[%]%]]", "93");
        bytes("[]%]]", "93");
        bytes("[%^]", "94");
        bytes("[%-]", "45");
        bytes("[%[]", "91");
        wrong("a", "[%]", 0);
        wrong("a", "[a%]", 0);
        wrong("a", "[^%]", 0);
        wrong("a", "[]%]", 0);
        wrong("a", "[%%%]", 0);
        found("%]", "[%%]]", 0, "1 0..2 looks 2");
    }

    /** A byte, -, and another byte, all before the closing ]: all from the first to the last. */
    private void setsSpans() {
        bytes("[a-c]", "97-99");
        bytes("[a-b]", "97-98");
        bytes("[a-a]", "97");
        bytes("[b-a]", "");
        bytes("[\0-\u00ff]", "0-255");
        bytes("[?-@]", "63-64");
        bytes("[@-\u007f]", "64-127");
        bytes("[\u00bf-\u00c0]", "191-192");
        bytes("[\u00c0-\u00ff]", "192-255");
        bytes("[a-]", "45 97");
        bytes("[-a]", "45 97");
        bytes("[-]", "45");
        bytes("[--]", "45");
        bytes("[---]", "45");
        bytes("[----]", "45");
        bytes("[a--]", "");
        bytes("[+--]", "43-45");
        bytes("[--a]", "45-97");
        bytes("[]-a]", "93-97");
        bytes("[]-]", "45 93");
        bytes("[a-c-e]", "45 97-99 101");
        bytes("[a-cd-e]", "97-101");
        bytes("[%d-z]", "45 48-57 122");
        bytes("[^a-]", "0-44 46-96 98-255");
        found("-]", "[a-]]", 0, "1 0..2 looks 2");
    }

    /** With ^ the set is all other bytes. */
    private void setsOthers() {
        bytes("[^a]", "0-96 98-255");
        bytes("[^\0]", "1-255");
        bytes("[^\u00ff]", "0-254");
        bytes("[^\0-\u00ff]", "");
        bytes("[^b-a]", "0-255");
        bytes("[^%d%D]", "");
        bytes("[^-]", "0-44 46-255");
        found("", "[^a]", 0, NONE + 0);
    }

    /** A set may take the whole pattern: its 512 bytes. */
    private void setsLength() {
        bytes("[" + "a".repeat(509) + "b]", "97-98");
        bytes("[^" + "a".repeat(508) + "b]", "0-96 99-255");
        bytes("[" + "a".repeat(511), "wrong");
        bytes("[" + "a".repeat(509) + "%]", "wrong");
        wrong("a", "[" + "a".repeat(511), 0);
    }

    /** With ? one, or none. */
    private void perhaps() {
        found("", "a?", 0, "1 0..0 looks 0");
        found("b", "a?", 0, "1 0..0 looks 1");
        found("aa", "a?", 0, "1 0..1 looks 1");
        found("aa", "^a?a?a?$", 0, "1 0..2 looks 2");
        found("aaa", "^a?a?$", 0, NONE + 3);
        found("a", "a?a", 0, "1 0..1 looks 2");
    }

    /** With * as many as there are, or fewer. */
    private void many() {
        found("", "a*", 0, "1 0..0 looks 0");
        found("b", "a*", 0, "1 0..0 looks 1");
        found("aa", "a*aa", 0, "1 0..2 looks 5");
        found("aa", "^a*aaa", 0, NONE + 5);
        String most = "a".repeat(4000);
        found(most, "a*", 0, "1 0..4000 looks 4000");
        found(most, "a*$", 4000, "1 4000..4000 looks 0");
    }

    /** With + at least one likewise. */
    private void atLeastOne() {
        found("", "a+", 0, NONE + 0);
        found("b", "a+", 0, NONE + 1);
        found("a", "a+", 0, "1 0..1 looks 1");
        found("a", "a+a", 0, NONE + 1);
        found("aa", "a+a", 0, "1 0..2 looks 3");
        found("aa", "^a+aa", 0, NONE + 3);
    }

    /** With - as few as may be, or more. */
    private void fewest() {
        found("", "a-", 0, "1 0..0 looks 0");
        found("aa", "a-", 0, "1 0..0 looks 0");
        found("aa", "^a-$", 0, "1 0..2 looks 2");
        found("aab", "^a-$", 0, NONE + 3);
        found("", "a-b", 0, NONE + 0);
        found("a", "^a-b", 0, NONE + 2);
        found("b", "a-b", 0, "1 0..1 looks 1");
    }

    /** () is one of the PLACE alone. */
    private void places() {
        found("", "()", 0, "1 0..0 0+-1 looks 0");
        found("ab", "()ab()", 0, "1 0..2 0+-1 2+-1 looks 2");
        found("ab", "(())", 0, "1 0..0 0+0 0+-1 looks 0");
        found("ab", "()()", 2, "1 2..2 2+-1 2+-1 looks 0");
        found("ab", "(a*)", 1, "1 1..1 1+0 looks 1");
    }

    /** ) closes the latest one that is open. */
    private void latestOpen() {
        found("abc", "(a(b)c)", 0, "1 0..3 0+3 1+1 looks 3");
        found("abc", "(a()b)c", 0, "1 0..3 0+2 1+-1 looks 3");
        found("abc", "((a)b(c))", 0, "1 0..3 0+3 0+1 2+1 looks 3");
        found("abc", "(((abc)))", 0, "1 0..3 0+3 0+3 0+3 looks 3");
    }

    /** % and 1 .. 9: the same bytes as that capture has. */
    private void same() {
        found("", "(a*)%1", 0, "1 0..0 0+0 looks 0");
        found("aa", "(a)%1", 0, "1 0..2 0+1 looks 2");
        found("a", "(a)%1", 0, NONE + 1);
        found("a0", "(a)%0", 0, "1 0..2 0+1 looks 2");
        String nine = "(a)(b)(c)(d)(e)(f)(g)(h)(i)";
        String had = " 0+1 1+1 2+1 3+1 4+1 5+1 6+1 7+1 8+1";
        found("abcdefghii", nine + "%9", 0, "1 0..10" + had + " looks 10");
        found("abcdefghia", nine + "%1", 0, "1 0..10" + had + " looks 10");
        // There is no %10: it is %1, and the byte 0.
        found("abcdefghija0", nine + "(j)%10", 0, "1 0..12" + had + " 9+1 looks 12");
    }

    /** %b and two bytes x, y: to the first y where there have been as many y as x. */
    private void pairs() {
        found("()", "%b()", 0, "1 0..2 looks 2");
        found("(()())()", "%b()", 0, "1 0..6 looks 6");
        found("(", "%b()", 0, NONE + 1);
        found(")", "%b()", 0, NONE + 1);
        found("", "%b()", 0, NONE + 0);
        found("(()", "^%b()", 0, NONE + 3);
        found("(()", "%b()", 0, "1 1..3 looks 5");
        found("((", "%b((", 0, "1 0..2 looks 2");
        found("(((", "^%b(($", 0, NONE + 2);
        found("(", "%b((", 0, NONE + 1);
        found("\0\u00ff", "%b\0\u00ff", 0, "1 0..2 looks 2");
        found("$a$", "%b$$", 0, "1 0..3 looks 3");
    }

    /** %f and a set: byte 0 before the first one and behind the last one. */
    private void borders() {
        found("", "%f[\0]", 0, NONE + 1);
        found("", "%f[^\0]", 0, NONE + 1);
        found("a", "%f[^\0]", 0, "1 0..0 looks 1");
        found("a", "%f[\0]", 0, "1 1..1 looks 2");
        found("\0", "%f[\0]", 0, NONE + 2);
        found("\0a", "%f[^\0]", 0, "1 1..1 looks 2");
        found("a\0", "%f[\0]", 0, "1 1..1 looks 2");
        found("ab", "%f[b]", 0, "1 1..1 looks 2");
        found("ab", "b%f[^b]", 0, "1 1..2 looks 3");
    }

    /** $ as the last byte: nothing, at the text's end. */
    private void textEnd() {
        found("", "$", 0, "1 0..0 looks 0");
        found("ab", "$", 0, "1 2..2 looks 0");
        found("$", "$$", 0, "1 0..1 looks 1");
        found("a$", "$a", 0, NONE + 2);
        found("a", "a%$", 0, NONE + 1);
        found("a", "()$", 0, "1 1..1 1+-1 looks 0");
        found("ab", "a-$", 0, "1 2..2 looks 3");
    }

    /** All other bytes that stand where an item begins are singles: * ] ? too. */
    private void bytesWhereAnItemBegins() {
        for (char b : "*+-?],^}\0\u00ff".toCharArray()) {
            found("a" + b, "a()" + b, 0, "1 0..2 1+-1 looks 2");
            found("a" + b, "(a)" + b, 0, "1 0..2 0+1 looks 2");
            found("aa" + b, "(a)%1" + b, 0, "1 0..3 0+1 looks 3");
            found("ab" + b, "%bab" + b, 0, "1 0..3 looks 3");
            found("" + b, "^" + b, 0, "1 0..1 looks 1");
        }
        found("**", "**", 0, "1 0..2 looks 2");
        found("??", "^??", 0, "1 0..1 looks 1");
        found("-a", "--a", 0, "1 0..2 looks 3");
        found("++", "++", 0, "1 0..2 looks 2");
        found("]]", "]+", 0, "1 0..2 looks 2");
    }

    /** An item that matches nowhere any more makes the one before it try its next way. */
    private void firstWay() {
        found("ab", "a?ab", 0, "1 0..2 looks 4");
        found("aab", "(a*)(a*)b", 0, "1 0..3 0+2 2+0 looks 5");
        found("aab", "(a-)(a*)b", 0, "1 0..3 0+0 0+2 looks 4");
        found("aa", "(a?)(a?)(a)$", 0, "1 0..2 0+1 1+0 1+1 looks 3");
        found("aab", "(a+)(a+)b", 0, "1 0..3 0+1 1+1 looks 7");
        // A choice that has no way left is not looked at again when the one before it goes on.
        found("aac", "^a-a-b", 0, NONE + 15);
        found("aac", "^a*a*b", 0, NONE + (3 + 1 + 1 + 2 + 2 + 3 + 3));
    }

    /** A single at the text's end makes no look and does not match. */
    private void looksAtTheTextsEnd() {
        for (String pattern : new String[] {"a", ".", "%a", "[^a]", "a+", "%bab"}) {
            found("", pattern, 0, NONE + 0);
            found("b", pattern, 1, NONE + 0);
        }
        for (String pattern : new String[] {"a*", "a?", "a-", "$"}) {
            found("b", pattern, 1, "1 1..1 looks 0");
        }
        found("aa", "aaa", 0, NONE + 3);
    }

    /** * and + look on until one does not match; - when what is behind did not match; ? once. */
    private void looksOfRepeats() {
        found("aab", "a*", 0, "1 0..2 looks 3");
        found("aab", "a+", 0, "1 0..2 looks 3");
        found("aa", "a+", 0, "1 0..2 looks 2");
        found("aab", "a-", 0, "1 0..0 looks 0");
        found("aab", "a-b", 0, "1 0..3 looks 5");
        found("aac", "^a-b", 0, NONE + 6);
        found("aab", "a?", 0, "1 0..1 looks 1");
        found("ab", "^a?c", 0, NONE + 3);
    }

    /** %f one, wherever; %b each byte up to where it ends or fails; %1 .. %9 up to the first one
     *  that differs (fewer bytes left than it wants: no look, no match). */
    private void looksOfSpecials() {
        found("", "%f[a]", 0, NONE + 1);
        found("a", "%f[b]", 1, NONE + 1);
        found("(a)b", "%b()", 0, "1 0..3 looks 3");
        found("(ab", "^%b()", 0, NONE + 3);
        found("a()", "^%b()", 0, NONE + 1);
        found("abcabc", "^(abc)%1", 0, "1 0..6 0+3 looks 6");
        found("abcabd", "^(abc)%1", 0, NONE + 6);
        found("abcbbb", "^(abc)%1", 0, NONE + 4);
        found("abcab", "^(abc)%1", 0, NONE + 3);
        found("abc", "^(abc)%1", 0, NONE + 3);
    }

    /** WRONG: a pattern that ends within an item (behind %, %b, %f, in a set). */
    private void wrongEnds() {
        for (String end : new String[] {"%", "%b", "%bx", "%f", "[", "[^", "[]", "[^]", "[a",
            "[a-", "[a-z", "[%", "[%]", "[^%", "%f[", "%f[^", "%f[]", "%f[a", "%f[%", "%f[%]"}) {
            wrong("", end, 0);
            wrong("xyz", end, 0);
            wrong("xyz", "x" + end, 1);
            wrong("xyz", "x?" + end, 1);
            found("xyz", "a" + end, 0, NONE + 3);
        }
        found("xy", "%bxy", 0, "1 0..2 looks 2");
        found("x$", "%bx$", 0, "1 0..2 looks 2");
        wrong("x$", "%b$", 0);
    }

    /** WRONG: %f without a set. */
    private void wrongBorders() {
        for (String behind : new String[] {"a", "%a", ".", "]", "$", "^", "(a)", "%[a]"}) {
            wrong("a", "%f" + behind, 0);
        }
        found("a", "%f[a]", 0, "1 0..0 looks 1");
    }

    /** WRONG: ) where no capture is open. */
    private void wrongClosing() {
        wrong("a", ")", 0);
        wrong("a", "())", 0);
        wrong("a", "(a))", 1);
        wrong("a", "a)", 1);
        wrong("a", "a?)", 1);
        found("a", "((a))", 0, "1 0..1 0+1 0+1 looks 1");
    }

    /** WRONG: ( where there are 32. */
    private void wrongThirtyThird() {
        String places = " 0+-1".repeat(32);
        found("a", "()".repeat(32), 0, "1 0..0" + places + " looks 0");
        wrong("a", "()".repeat(33), 0);
        wrong("a", "()".repeat(32) + "(a)", 0);
        wrong("a", "()".repeat(32) + "(", 0);
        found("a", "()".repeat(32) + "a", 0, "1 0..1" + places + " looks 1");
        found("b", "()".repeat(32) + "a()", 0, NONE + 1);
        wrong("a", "()".repeat(32) + "a()", 1);
        found("a", "(".repeat(32) + "a" + ")".repeat(32), 0,
            "1 0..1" + " 0+1".repeat(32) + " looks 1");
        wrong("a", "(".repeat(33) + "a" + ")".repeat(33), 0);
        found("a", "(a?)".repeat(32), 0, "1 0..1 0+1" + " 1+0".repeat(31) + " looks 1");
        wrong("a", "(a?)".repeat(33), 1);
        TextPatterns x = Checks.of("a", "()".repeat(33));
        checks.due("replace with 33", x.replace(1), WRONG);
        checks.due("next with 33", x.next(), WRONG);
        checks.due("next over then", x.next(), 0);
    }

    /** WRONG: a capture of %1 .. %9 that is not there, is not closed, or is a place's. */
    private void wrongSame() {
        for (int k = 1; k <= 9; k++) {
            wrong("aa", "%" + k, 0);
            wrong("aa", "(a)".repeat(Math.min(2, k - 1)) + "%" + k, Math.min(2, k - 1));
            found("", "(a*)".repeat(k) + "%" + k, 0, "1 0..0" + " 0+0".repeat(k) + " looks 0");
        }
        wrong("aa", "(%1)", 0);
        wrong("aa", "(a%1)", 1);
        wrong("aa", "(a(a)%1)", 2);
        found("aaa", "(a(a)%2)", 0, "1 0..3 0+3 1+1 looks 3");
        wrong("aa", "()%1", 0);
        wrong("aa", "(a)()%2", 1);
        found("aa", "(a)()%1", 0, "1 0..2 0+1 1+-1 looks 2");
    }

    /** WRONG: the pattern's end with a capture open. */
    private void wrongOpenAtTheEnd() {
        wrong("a", "(", 0);
        wrong("a", "(a", 1);
        wrong("a", "(()", 0);
        wrong("a", "((a)", 1);
        wrong("a", "(a?$", 1);
        found("b", "(a", 0, NONE + 1);
    }

    /** IT IS WRONG when matching comes to it. */
    private void wrongOnlyWhenComeTo() {
        for (String end : new String[] {"%", "%b", "%f", "[", ")", "(", "%1", "()".repeat(33)}) {
            found("bbb", "a" + end, 0, NONE + 3);
            found("", "a" + end, 0, NONE + 0);
            wrong("bba", "a" + end, 3);
        }
        checks.dueReplaced("bbb", "a%", "x", 9, "0 bbb");
        checks.dueReplaced("bab", "a%", "x", 9, "-2 ");
        checks.dueReplaced("bab", "%", "x", 0, "0 bab");
    }

    /** A SEARCH: there, and at each later place up to the text's end. */
    private void searches() {
        found("", "", 0, "1 0..0 looks 0");
        found("abc", "", 3, "1 3..3 looks 0");
        found("abc", "c", 0, "1 2..3 looks 3");
        found("abc", "c*$", 0, "1 2..3 looks 3");
        found("abc", "d*$", 0, "1 3..3 looks 3");
        found("abc", "a", 1, NONE + 2);
        found("abc", "c", 3, NONE + 0);
    }

    /** If the pattern begins with ^, that is no item, and only the first place counts. */
    private void fixedSearches() {
        found("", "^", 0, "1 0..0 looks 0");
        found("abc", "^", 3, "1 3..3 looks 0");
        found("abc", "^b", 0, NONE + 1);
        found("abc", "^b", 1, "1 1..2 looks 1");
        found("abc", "^c", 1, NONE + 1);
        found("abc", "^$", 2, NONE + 0);
        found("abc", "^$", 3, "1 3..3 looks 0");
        found("^a", "^^", 0, "1 0..1 looks 1");
        found("a^", "^^", 0, NONE + 1);
        found("^a", "%^", 0, "1 0..1 looks 1");
        found("^a", "(^a)", 0, "1 0..2 0+2 looks 2");
        found("a", "^" + "a?".repeat(255) + "a", 0, "1 0..1 looks 256");
        wrong("", "^%", 0);
    }

    /** From m of its a's on, a*b makes 2 * (m + 1) looks, and 2 at each c. */
    private static String manyThen(int cs) {
        return "a".repeat(314) + "c".repeat(cs);
    }

    /** One call makes at most 100000 looks in all: when it would make one more it is TOO LONG. */
    private void mostLooks() {
        found(manyThen(230), "a*b", 0, NONE + 99998);
        found(manyThen(231), "a*b", 0, NONE + 100000);
        found(manyThen(232), "a*b", 0, TOO_LONG);
        found(manyThen(230) + "b", "a*b", 0, "1 544..545 looks 100000");
        found(manyThen(231) + "b", "a*b", 0, TOO_LONG);
        // Behind the 100000th look, what makes none may still match, or be WRONG.
        found(manyThen(231), "a*b?$", 0, "1 545..545 looks 100000");
        // From place 1 on there are 2 * 315 looks fewer.
        found(manyThen(231 + 315), "a*b", 1, NONE + 100000);
        found(manyThen(231 + 316), "a*b", 1, TOO_LONG);
        found(manyThen(230) + "b", "a*b%", 0, IS_WRONG + 100000);
        found(manyThen(231) + "b", "a*b%", 0, TOO_LONG);
    }

    /** The 100001st look, made by each kind of item, is the last one that there would be. */
    private void mostLooksOfEachItem() {
        // A single: 2 * m + 3 from m a's on, 3 at each c.
        found("a".repeat(313) + "c".repeat(259), "d?a*b", 0, NONE + 99998);
        found("a".repeat(313) + "c".repeat(260), "d?a*b", 0, TOO_LONG);
        // ? likewise; but at the text's end it matches without a look.
        found("a".repeat(313) + "c".repeat(259), "d?a*b?$", 0, "1 572..572 looks 99998");
        found("a".repeat(313) + "c".repeat(260), "d?a*b?$", 0, TOO_LONG);
        // *, + and -: m + 1 from m a's on, 1 at each c.
        String just = "a".repeat(445) + "c".repeat(320);
        found(just, "a*$", 0, "1 765..765 looks 100000");
        found(just + "c", "a*$", 0, TOO_LONG);
        found(just, "a+$", 0, NONE + 100000);
        found(just + "c", "a+$", 0, TOO_LONG);
        found(just, "a-$", 0, "1 765..765 looks 100000");
        found(just + "c", "a-$", 0, TOO_LONG);
        mostLooksOfSpecials();
    }

    private void mostLooksOfSpecials() {
        // %f, at the text's end: 2 * m + 1 from m a's on, 2 at each c.
        found("c".repeat(387) + "a".repeat(314), "a*%f[\1]", 0, NONE + 99999);
        found("c".repeat(388) + "a".repeat(314), "a*%f[\1]", 0, TOO_LONG);
        // %b at its first byte: 2 * m + 1 from m a's on, 3 at each c.
        found("c".repeat(258) + "a".repeat(314), "b?a*%bxy", 0, NONE + 99998);
        found("c".repeat(259) + "a".repeat(314), "b?a*%bxy", 0, TOO_LONG);
        // %b at its last byte: from 272 places back to the first, to the text's end.
        found("a".repeat(271) + "e".repeat(231), "^a*%bax", 0, NONE + (100001 - 271));
        found("a".repeat(271) + "e".repeat(232), "^a*%bax", 0, TOO_LONG);
        // %1 when the capture has 447 a's, 446, .. 1: 386 looks, .. 416, then 416, 415, .. 1.
        String same = "a".repeat(832) + "b".repeat(62);
        found(same, "^(a*)%1$", 0, NONE + 100000);
        found(same, "^c?(a*)%1$", 0, TOO_LONG);
    }

    /** One call: each has all of its 100000; replace() in all of its places. */
    private void mostLooksOfOneCall() {
        TextPatterns x = Checks.of(manyThen(230) + "b" + "c".repeat(4), "a*b", "-");
        checks.due("next", x.next(), 1);
        checks.due("next's looks", x.looks(), 100000);
        checks.due("next has its own", x.next(), 0);
        checks.due("next's own", x.looks(), 8);
        checks.due("find has its own", x.find(0), 1);
        checks.due("replace stops when it has most", x.replace(1), 1);
        checks.due("replace's looks", x.looks(), 100000);
        checks.due("replace goes on to the end", x.replace(2), LONG);
        checks.due("replace goes on to the end", x.looks(), 100000);
        TextPatterns y = Checks.of("b" + manyThen(230), "a*b", "-");
        checks.due("100000 with a match before", y.replace(2), 1);
        checks.due("100000 with a match before", y.looks(), 100000);
        Checks.type(y, 0, "c");
        checks.due("one c more", y.replace(2), LONG);
        checks.due("one c more", y.size(), 0);
        checks.due("next finds the first", y.next(), 1);
        checks.due("next goes on behind it", y.next(), 0);
        checks.due("next goes on behind it", y.looks(), 100000);
    }
}
