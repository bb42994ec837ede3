/** TOKENS, TERMS and their PLACES, and how terms are WRITTEN. */
public final class ReadTest {
    private static House house = new House();

    /** A new house before the one there is has been called too often. */
    private static House h() {
        if (house.x.calls > 100) {
            house = new House();
        }
        return house;
    }

    private static void is(String text, String want) {
        h().isTerm(text, 0, want);
    }

    private static String times(String s, int n) {
        return s.repeat(n);
    }

    public static void main(String[] args) {
        names();
        numbers();
        texts();
        layout();
        operators();
        written();
        limits();
        told();
        House.finish();
    }

    private static void names() {
        is("aB_1", "aB_1");
        is("'hello world'", "'hello world'");
        is("'don''t'", "'don''t'");
        is("''", "''");
        is("'\\n\\t\\\\\\'\\\"\\`'", "'\\n\\t\\\\''\"`'");
        is("'\\x1\\\\x7F\\\\x41\\'", "'\\x01\\\\x7f\\A'");
        for (String bad : new String[] {"'a", "'\\e'", "'\\x0\\'", "'\\x80\\'", "'\\x041\\'", "'\\x41'", "'a\nb'", "'\\x\\'"}) {
            is(bad, "place 0");
        }
        is("[]", "[]");
        is("{}", "{}");
        is("[ ]", "place 2");
        is("{ }", "place 2");
        is("!", "!");
        is(";", ";");
        is("'[]'", "[]");
        is("','", "','");
        is("'|'", "'|'");
        is("+-*/\\^<>=~:.?@#&$", "+-*/\\^<>=~:.?@#&$");
        is("./*", "./*");
        is("'/*'", "'/*'");
        is("'.'", "'.'");
        is("'.'(a, [])", "[a]");
        is("`a`", "place 0");
        is("a b", "place 2");
        is("a\u0000b", "place 1");
        is("a \u00e4", "place 2");
        is("f(X, _, _, _Y, _Y, X)", "f(_1,_2,_3,_4,_4,_1)");
    }

    private static void numbers() {
        is("007", "7");
        is("0x1fA", "506");
        is("0o17 + 0b101", "15 + 5");
        is("0xg", "place 1");
        is("0b2", "place 1");
        is("[0'a, 0''', 0'\\n, 0'\\x41\\, 0'\", 0' ]", "[97,39,10,65,34,32]");
        is("0'", "place 0");
        is("0''", "place 0");
        is("0'\\e", "place 0");
        is("9223372036854775807", "9223372036854775807");
        is("9223372036854775808", "place 0");
        is("-9223372036854775808", "-9223372036854775808");
        is("- 9223372036854775808", "place 2");
        is("-9223372036854775809", "place 1");
        is("0x7fffffffffffffff", "9223372036854775807");
        is("-0x8000000000000000", "-9223372036854775808");
        is("0x8000000000000000", "place 0");
        is("1.5", "place 1");
        is("1e5", "place 1");
    }

    private static void texts() {
        is("\"abc\"", "[97,98,99]");
        is("\"\"", "[]");
        is("\"a\"\"b\\\"'\\n\"", "[97,34,98,34,39,10]");
        is("\"abc", "place 0");
        is("\"a\" \"b\"", "place 4");
    }

    private static void layout() {
        is(" \t\r\n a % comment", "a");
        is("a /* comment */ . % more", "a");
        is("/* a", "place 0");
        is("a /* b", "place 2");
        is("a /*/ b", "place 2");
        is("a.% end", "a");
        is("a.b", "place 1");
        is("a. b", "place 3");
        is("a. .", "place 3");
        is(".", "place 0");
        is("", "place 0");
        is("  ", "place 2");
        is("f(a  ", "place 5");
    }

    private static void operators() {
        is("a :- b, c ; d -> e", "a :- b,c ; d -> e");
        is("a :- b :- c", "place 7");
        is("(a :- b) :- c", "(a :- b) :- c");
        is("1 - 2 - 3", "1 - 2 - 3");
        is("1 - (2 - 3)", "1 - (2 - 3)");
        is("2 ** 3 ** 4", "2 ** 3 ** 4");
        is("a = b = c", "place 6");
        is("- 1", "- 1");
        is("-1", "-1");
        is("-(1)", "- 1");
        is("'-'1", "-1");
        is("1 -1", "1 - 1");
        is("1 - -1", "1 - -1");
        is("- - a", "- - a");
        is("-(3) ^ 2", "(- 3) ^ 2");
        is("- 3 ^ 2", "- 3 ^ 2");
        is("-3 ^ 2", "-3 ^ 2");
        is("\\+ a, b", "\\+ a,b");
        is("\\+ (a, b)", "\\+ (a,b)");
        is("- = a", "(-) = a");
        is("- =(a, b)", "- (a = b)");
        is("f(-, +)", "f(-,+)");
        is("[-|-]", "[-|-]");
        is("{-}", "{-}");
        is("-", "-");
        is("- (-)", "- (-)");
        is("= = =", "(=) = (=)");
        is("a = \\+ b", "place 4");
        is("a = \\+", "a = (\\+)");
        is("f(:- a)", "place 2");
        is("f(:- 'a", "place 2");
        is("f((:- a))", "f((:- a))");
        is("f(a :- b)", "place 4");
        is("f(a ; b)", "place 4");
        is("[a, b|c]", "[a,b|c]");
        is("[a|b, c]", "place 4");
        is("[a|b|c]", "place 4");
        is("[a, ]", "place 4");
        is("a | b", "place 2");
        is("f()", "place 2");
        is("f(a b)", "place 4");
        is("f (a)", "place 2");
        is("f(,)", "place 2");
        is("(a", "place 2");
        is("a)", "place 1");
        is("a ',' b", "place 2");
        is("a =(b)", "a = b");
        is(":- dynamic foo/1", ":- dynamic foo / 1");
        is("dynamic = table", "(dynamic) = (table)");
        is("{}(a)", "{a}");
        is("{}(a, b)", "{}(a,b)");
        is("{a :- b}", "{a :- b}");
    }

    private static void written() {
        h().isTerm("a :- b, {c}, [d|e], - 1, 'F'", 2, ":-(a,','(b,','({}(c),','([d|e],','(-(1),'F')))))");
        h().isTerm("f('A b', '\\n', [])", 1, "f(A b,\n,[])");
        is("+(1, 2, 3)", "+(1,2,3)");
        is("=(a)", "=(a)");
        is("','(a)", "','(a)");
        is("','(a, b, c)", "','(a,b,c)");
        is("1 = (:-)", "1 = (:-)");
        is("(a , b) , c", "(a,b),c");
        is("[(a , b), (c :- d)]", "[(a,b),(c :- d)]");
        is("f(A, B, A, _)", "f(_1,_2,_1,_3)");
    }

    private static void limits() {
        is(times("a", 250), times("a", 250));
        is(times("a", 251), "place 0");
        is("'" + times("\\x41\\", 250) + "'", "'" + times("A", 250) + "'");
        is("f('" + times("b", 251) + "')", "place 2");
        is(times("A", 300), "_1");
        is(times("(", 79) + "a" + times(")", 79), "a");
        is(times("(", 80) + "a" + times(")", 80), "place 80");
        is(times("(", 80), "place 80");
        is(times("[", 80) + "a" + times("]", 80), "place 80");
        is(times("- ", 79) + "a", times("- ", 79) + "a");
        is(times("- ", 80) + "a", "place 160");
        is(times("a,", 79) + "a", times("a,", 79) + "a");
        is(times("a,", 80) + "a", "place 160");
        is(times("1+", 300) + "1", times("1 + ", 300) + "1");
        is("f(" + times("a,", 254) + "a)", "f(" + times("a,", 254) + "a)");
        is("f(" + times("a,", 255) + "a)", "place " + (2 + 510));
        is("[" + times("a,", 1000) + "a]", "[" + times("a,", 1000) + "a]");
    }

    /** Operators that were told by op. */
    private static void told() {
        House h = new House();
        h.first("op(50, xf, x)");
        h.first("op(700, xfx, is_in), op(100, fy, #), op(200, xfy, and)");
        h.isTerm("a is_in # # b and c", 0, "a is_in # # b and c");
        h.isTerm("is_in(a, and(and(b, c), d))", 0, "a is_in (b and c) and d");
        h.isTerm("#(- 1)", 0, "# (- 1)");
        h.first("op(0, fy, -)");
        h.isTerm("- 1", 0, "place 2");
        h.isTerm("-1", 0, "-1");
        h.isTerm("-(1)", 0, "-(1)");
        h.x.reset();
        h.isTerm("- 1", 0, "- 1");
    }
}
