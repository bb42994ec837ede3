/** Reading and writing at their edges: each token, each limit, each PLACE; brackets and quotes. */
public final class EdgeReadTest {
    private static House house = new House();

    /** A new house before the one there is has been called too often. */
    private static House h() {
        if (house.x.calls > 200) {
            house = new House();
        }
        return house;
    }

    private static void is(String text, String want) {
        h().isTerm(text, 0, want);
    }

    private static void place(String text, int want) {
        h().isTerm(text, 0, "place " + want);
    }

    private static String times(String s, int n) {
        return s.repeat(n);
    }

    public static void main(String[] args) {
        noTokens();
        ends();
        names();
        escapes();
        strings();
        digits();
        codes();
        otherBases();
        minus();
        longNames();
        manyArguments();
        depth();
        prefix();
        infix();
        strengthInBrackets();
        fitting();
        toldOperators();
        quotes();
        quotedBytes();
        brackets();
        operatorAtoms();
        canonically();
        plainly();
        variables();
        everyByte();
        House.finish();
    }

    /** What can't be a token can't stand, at its first byte. */
    private static void noTokens() {
        for (int b = 0; b < 256; b++) {
            boolean layout = b == 9 || b == 10 || b == 13 || b == 32;
            if ((b < 32 || b > 126) && !layout) {
                place("a, " + (char) b, 3);
            } else if (layout) {
                is("a" + (char) b, "a");
            }
        }
        place("a = `b`", 4);
        place("a = 'b", 4);
        place("a = \"b", 4);
        place("a = /* b", 4);
        place("a /* b", 2);
        place("a = 'b\nc'", 4);
        place("a = \"b\tc\"", 4);
        place("a = 'b\u007f'", 4);
        place("a = 'b\u00e4'", 4);
        is("a % \u00e4 \u0000\n", "a");
        is("a /* \u00e4 \u0000 ' \" */", "a");
    }

    private static void ends() {
        is("a.", "a");
        is("a. ", "a");
        is("a.\n", "a");
        is("a.\t", "a");
        is("a.\r", "a");
        is("a.%", "a");
        is("a. % b", "a");
        is("a. /* b */", "a");
        place("a./* b */", 1);
        place("a.b", 1);
        place("a..", 1);
        place("a.(b)", 1);
        place("a .. ", 2);
        is("'.'(a, b)", "[a|b]");
        is(".(a, b)", "[a|b]");
        place(".", 0);
        place(" .", 1);
        place("", 0);
        place("   ", 3);
        place("%", 1);
        place("% a\n", 4);
        place("/**/", 4);
        is("/**/a", "a");
        is("/***/a", "a");
        is("/* * / */a", "a");
        place("/*/a", 0);
        is("a%", "a");
        is("+/*", "+/*");
        place("+/* b", 4);
        place("f(a", 3);
        place("f(a ", 4);
        place("f(a /* */", 9);
        place("[a", 2);
        place("[a|b", 4);
        place("{a", 2);
        place("(a", 2);
        place("a =", 3);
        place("f(", 2);
        place("f(a,", 4);
        place("f(a.", 3);
        place("f(a. ", 3);
    }

    private static void names() {
        is("a", "a");
        is("z_A0", "z_A0");
        is("aA", "aA");
        is("!", "!");
        place("!!", 1);
        is(";", ";");
        is("[]", "[]");
        is("{}", "{}");
        place("[ ]", 2);
        place("{ }", 2);
        place("[/**/]", 5);
        is("[](a)", "[](a)");
        is("!(a)", "!(a)");
        is(";(a)", ";(a)");
        is("'a'(b)", "a(b)");
        is("''(b)", "''(b)");
        for (char c : "+-*/\\^<>=~:.?@#&$".toCharArray()) {
            is(c + "" + c + c, c + "" + c + c);
        }
        is("=..", "=..");
        place("=.. a", 4);
        place("a b", 2);
        place("a 'b'", 2);
        place("a 1", 2);
        place("a X", 2);
        place("a \"b\"", 2);
        place("a (b)", 2);
        place("a [b]", 2);
        place("a {b}", 2);
        place("X(a)", 1);
        place("1(a)", 1);
        place("a!", 1);
    }

    /** \\ and one of n t \\ ' " `, or \\x, one or two digits that are 01 .. 7F, and \\. */
    private static void escapes() {
        is("'\\n'", "'\\n'");
        is("'\\t'", "'\\t'");
        is("'\\\\'", "\\");
        is("'\\''", "''''");
        is("'\\\"'", "'\"'");
        is("'\\`'", "'`'");
        is("''''", "''''");
        is("'a''b'", "'a''b'");
        is("'\"'", "'\"'");
        is("'\"\"'", "'\"\"'");
        is("'\\x1\\'", "'\\x01\\'");
        is("'\\x01\\'", "'\\x01\\'");
        is("'\\xa\\'", "'\\n'");
        is("'\\xA\\'", "'\\n'");
        is("'\\x7f\\'", "'\\x7f\\'");
        is("'\\x7F\\'", "'\\x7f\\'");
        is("'\\x61\\b'", "ab");
        for (String bad : new String[] {"'\\x0\\'", "'\\x00\\'", "'\\x80\\'", "'\\xff\\'", "'\\x061\\'", "'\\x\\'", "'\\xg\\'",
            "'\\x6g\\'", "'\\x61'", "'\\x61 \\'", "'\\a'", "'\\r'", "'\\0\\'", "'\\N'", "'\\X61\\'", "'\\ '", "'\\\n'", "'\\",
            "'\\x", "'\\x6", "'\\x61", "'\\x61\\", "'\\'"}) {
            place("f(" + bad + ")", 2);
        }
    }

    private static void strings() {
        is("\"\"", "[]");
        is("\"a\"", "[97]");
        is("\"\"\"\"", "[34]");
        is("\"'\"", "[39]");
        is("\"''\"", "[39,39]");
        is("\"\\\"\\'\\x7f\\~ \"", "[34,39,127,126,32]");
        place("\"\\x80\\\"", 0);
        place("\"\"\"", 0);
        is("\"" + times("a", 300) + "\" = X", "[" + times("97,", 299) + "97] = _1");
        place("\"a\"(b)", 3);
    }

    /** Digits: below 2^63, or it can't stand. */
    private static void digits() {
        is("0", "0");
        is("000", "0");
        is("9223372036854775807", "9223372036854775807");
        is("00009223372036854775807", "9223372036854775807");
        place("9223372036854775808", 0);
        place("f(9223372036854775808)", 2);
        place("92233720368547758070", 0);
        place("99999999999999999999999999", 0);
        place("18446744073709551616", 0);
        is("1152921504606846975", "1152921504606846975");
        is("1152921504606846976", "1152921504606846976");
        is("-1152921504606846976", "-1152921504606846976");
        is("-1152921504606846977", "-1152921504606846977");
        place("1a", 1);
        place("1_000", 1);
        place("1 2", 2);
        place("1.0", 1);
        is("1.", "1");
    }

    /** 0' and a byte 32 .. 126 but \\ and ', or '' or \\ as above. */
    private static void codes() {
        is("0' ", "32");
        is("0'~", "126");
        is("0'a", "97");
        is("0'\"", "34");
        is("0'0", "48");
        is("0'''", "39");
        is("0'\\'", "39");
        is("0'\\\\", "92");
        is("0'\\n", "10");
        is("0'\\t", "9");
        is("0'\\\"", "34");
        is("0'\\`", "96");
        is("0'`", "96");
        is("0'\\x7f\\", "127");
        is("0'\\x1\\", "1");
        is("-0'a", "-97");
        is("0'a + 0'b", "97 + 98");
        for (String bad : new String[] {"0'", "0''", "0''a", "0'\\", "0'\\a", "0'\\x0\\", "0'\\x80\\", "0'\\x41", "0'\n", "0'\t",
            "0'\u007f", "0'\u00e4", "0'\u0000"}) {
            place("f(" + bad, 2);
        }
        place("1'a'", 1);
        place("00'a", 2);
    }

    /** 0x 0o 0b: one digit at least, else it is 0. */
    private static void otherBases() {
        is("0x0", "0");
        is("0xfF", "255");
        is("0x0000000000000000001", "1");
        is("0x7fffffffffffffff", "9223372036854775807");
        place("0x8000000000000000", 0);
        place("0xffffffffffffffff", 0);
        place("0x10000000000000000", 0);
        is("-0x8000000000000000", "-9223372036854775808");
        place("-0x8000000000000001", 1);
        is("0o777", "511");
        is("0o777777777777777777777", "9223372036854775807");
        place("0o1000000000000000000000", 0);
        is("-0o1000000000000000000000", "-9223372036854775808");
        is("0b101", "5");
        is("0b" + times("1", 63), "9223372036854775807");
        place("0b1" + times("0", 63), 0);
        is("-0b1" + times("0", 63), "-9223372036854775808");
        place("-0b1" + times("0", 62) + "11", 1);
        place("0x", 1);
        place("0xg", 1);
        place("0o", 1);
        place("0o8", 1);
        place("0b2", 1);
        place("0b", 1);
        place("0X1", 1);
        place("0xfg", 3);
        place("0o78", 3);
        place("0b12", 3);
        place("1x1", 1);
        House h = new House();
        h.first("op(700, xfx, [x, o8, b])");
        h.isTerm("0x(1)", 0, "0 x 1");
        h.isTerm("0o8 1", 0, "0 o8 1");
        h.isTerm("0b 1", 0, "0 b 1");
        h.isTerm("0x1", 0, "1");
    }

    /** - with a number directly behind it. */
    private static void minus() {
        is("-1", "-1");
        is("-0", "0");
        is("- 1", "- 1");
        is("-(1)", "- 1");
        is("-9223372036854775808", "-9223372036854775808");
        place("-9223372036854775809", 1);
        place("- 9223372036854775808", 2);
        place("-(9223372036854775808)", 2);
        place("1 - 9223372036854775808", 4);
        place("1 -9223372036854775808", 3);
        is("1 - -9223372036854775808", "1 - -9223372036854775808");
        is("1-1", "1 - 1");
        is("1 -1", "1 - 1");
        is("a-1", "a - 1");
        is("[-1]", "[-1]");
        is("[a,-1]", "[a,-1]");
        is("- -1", "- -1");
        is("-a", "- a");
        is("-'a'", "- a");
        is("+1", "+ 1");
        is("-1 + 2", "-1 + 2");
        is("-1^2", "-1 ^ 2");
        place("-/**/1", 5);
        is("- /**/1", "- 1");
    }

    /** NAMES of more than 250 bytes can't stand. */
    private static void longNames() {
        is(times("a", 250), times("a", 250));
        place("f(" + times("a", 251) + ")", 2);
        is(times("+", 250), times("+", 250));
        place("f(" + times("+", 251) + ")", 2);
        is("'" + times(" ", 250) + "'", "'" + times(" ", 250) + "'");
        place("f('" + times(" ", 251) + "')", 2);
        is("'" + times("''", 250) + "'", "'" + times("''", 250) + "'");
        place("'" + times("''", 251) + "'", 0);
        is("'" + times("\\x1\\", 250) + "'", "'" + times("\\x01\\", 250) + "'");
        place("'" + times("\\x1\\", 251) + "'", 0);
        is(times("a", 250) + "(b)", times("a", 250) + "(b)");
        place(times("a", 251) + "(b)", 0);
        is("A" + times("a", 300), "_1");
        is("_" + times("a", 300), "_1");
    }

    /** At most 255 arguments: the first token of the next can't stand. */
    private static void manyArguments() {
        is("f(" + times("a,", 254) + "b)", "f(" + times("a,", 254) + "b)");
        place("f(" + times("a,", 255) + "b)", 2 + 510);
        place("f(" + times("a,", 255) + "  'b')", 2 + 512);
        place("f(" + times("a,", 255) + ")", 2 + 510);
        place("f(" + times("a,", 255), 2 + 510);
        place("f(" + times("a,", 254) + "b", 2 + 509);
        place("f(" + times("a,", 254) + "b c", 2 + 510);
        is("[" + times("a,", 400) + "b]", "[" + times("a,", 400) + "b]");
        is("{" + times("a,", 60) + "b}", "{" + times("a,", 60) + "b}");
    }

    /** At most 80 TERMS within one another: the first token of the 81st can't stand. */
    private static void depth() {
        is(times("(", 79) + "a" + times(")", 79), "a");
        place(times("(", 80) + "a" + times(")", 80), 80);
        is(times("[", 79) + "a" + times("]", 79), times("[", 79) + "a" + times("]", 79));
        place(times("[", 80) + "a" + times("]", 80), 80);
        place(times("[a|", 80) + "b" + times("]", 80), 238);
        is(times("[a|", 79) + "b" + times("]", 79), "[" + times("a,", 78) + "a|b]");
        is(times("{", 79) + "a" + times("}", 79), times("{", 79) + "a" + times("}", 79));
        place(times("{", 80) + "a" + times("}", 80), 80);
        is(times("f(", 79) + "a" + times(")", 79), times("f(", 79) + "a" + times(")", 79));
        place(times("f(", 80) + "a" + times(")", 80), 160);
        place(times("f(", 80), 160);
        place(times("f(", 80) + "'", 160);
        is(times("- ", 79) + "a", times("- ", 79) + "a");
        place(times("- ", 80) + "a", 160);
        is(times("- ", 80).trim(), times("- ", 78) + "- (-)");
        is(times("a ^ ", 79) + "a", times("a ^ ", 79) + "a");
        place(times("a ^ ", 80) + "a", 320);
        is(times("a,", 79) + "a", times("a,", 79) + "a");
        place(times("a,", 80) + "a", 160);
        is(times("1 - ", 200) + "1", times("1 - ", 200) + "1");
        is(times("(", 78) + "1 - 2 - 3 - 4" + times(")", 78), "1 - 2 - 3 - 4");
        place(times("(", 79) + "1 - 2" + times(")", 79), 79 + 4);
        is(times("(", 79) + "[]" + times(")", 79), "[]");
        place(times("(", 79) + "[a]" + times(")", 79), 80);
        is(times("(", 79) + "\"abc\"" + times(")", 79), "[97,98,99]");
        is(times("(", 79) + "-1" + times(")", 79), "-1");
        place(times("(", 79) + "- a" + times(")", 79), 81);
        House h = new House();
        House.same("consult", h.consult("a. " + times("(", 80) + "b" + times(")", 80) + ". c."), -1 - 83);
        h.isAll("atom_codes(A, \"" + times("(", 80) + "b" + times(")", 80) + "\"), term_to_atom(T, A)",
                "ball error(syntax_error(80),_1)");
    }

    /** A prefix operator and what may follow it. */
    private static void prefix() {
        is("- a", "- a");
        is("-", "-");
        is("- .", "-");
        is("(-)", "-");
        is("[-]", "[-]");
        is("{-}", "{-}");
        is("f(-, a)", "f(-,a)");
        is("[-|a]", "[-|a]");
        place("- | a", 2);
        is("- = a", "(-) = a");
        is("- =(a, b)", "- (a = b)");
        is("- = (a)", "(-) = a");
        is("- + a", "- + a");
        is("- +(a)", "- + a");
        is("- - a", "- - a");
        is("- (a, b)", "- (a,b)");
        is("-(a, b)", "a - b");
        is("- [a]", "- [a]");
        is("- {a}", "- {a}");
        is("- \"a\"", "- [97]");
        is("- X", "- _1");
        is("\\+ a", "\\+ a");
        is("\\+ \\+ a", "\\+ \\+ a");
        is(":- a", ":- a");
        place(":- :- a", 3);
        place(":- a :- b", 5);
        is(":- dynamic a", ":- dynamic a");
        place("dynamic dynamic a", 8);
        place("f(:- a)", 2);
        place("f(:- 'a)", 2);
        place("f(:- `)", 2);
        place("f(:- /* )", 2);
        is("f(:-)", "f(:-)");
        is("f(:-, a)", "f(:-,a)");
        place("f(:- :- a)", 2);
        place("f(dynamic 'a)", 2);
        place("f(- 'a)", 4);
        place("- `", 2);
        place("a = :- b", 4);
        place("[a, :- b]", 4);
        place("[a|:- b]", 3);
        is("[a|:-]", "[a|:-]");
        is("{:- a}", "{:- a}");
        is("(:- a)", ":- a");
        is("- - ", "- (-)");
        is("dynamic", "dynamic");
        is("?- a", "?- a");
        is("- (:-)", "- (:-)");
        is("- :-", "- (:-)");
        place("- :- a", 2);
    }

    private static void infix() {
        is("a:-b", "a :- b");
        place("a :- b :- c", 7);
        place("a --> b :- c", 8);
        place("a = b = c", 6);
        place("a < b < c", 6);
        is("a ; b ; c", "a ; b ; c");
        is("(a ; b) ; c", "(a ; b) ; c");
        is("a -> b -> c", "a -> b -> c");
        is("a - b - c", "a - b - c");
        is("a - (b - c)", "a - (b - c)");
        is("a - b + c * d", "a - b + c * d");
        is("(a - b) * c", "(a - b) * c");
        is("a ^ b ^ c", "a ^ b ^ c");
        is("(a ^ b) ^ c", "(a ^ b) ^ c");
        is("a ** b ^ c", "a ** b ^ c");
        is("a , b", "a,b");
        place("a ',' b", 2);
        is("','(a, b)", "a,b");
        place("a | b", 2);
        is("a = (b :- c)", "a = (b :- c)");
        place("a = b :- c = d = e", 15);
        is("X is 1 + 2", "_1 is 1 + 2");
        place("is is is is", 9);
        is("is is is", "(is) is (is)");
        is("a rem b mod c", "a rem b mod c");
        place("a = \\+ b", 4);
        is("a = -b", "a = - b");
        is("- a ^ b", "- a ^ b");
        is("(- a) ^ b", "(- a) ^ b");
        is("- a * b", "- a * b");
        is("- (a * b)", "- (a * b)");
        is("\\ a + b", "\\ a + b");
        is("a = b, c", "a = b,c");
        is("a :- b, c ; d -> e *-> f", "a :- b,c ; d -> e *-> f");
        is("f(a = b, c - d)", "f(a = b,c - d)");
        is("f((a , b))", "f((a,b))");
        is("f((a :- b))", "f((a :- b))");
        place("f(a :- b)", 4);
        place("[a :- b]", 3);
        place("[a|b :- c]", 5);
        is("{a :- b}", "{a :- b}");
    }

    /** What stands in brackets, or is an argument, is of strength 0. */
    private static void strengthInBrackets() {
        is("f(a = b) ^ c", "f(a = b) ^ c");
        is("[a = b] ^ c", "[a = b] ^ c");
        is("[a|b = c] ^ d", "[a|b = c] ^ d");
        is("{a :- b} ^ c", "{a :- b} ^ c");
        is("(a :- b) ^ c", "(a :- b) ^ c");
        is("f((a :- b)) = g((c :- d))", "f((a :- b)) = g((c :- d))");
        is("- (a = b) ^ c", "- (a = b) ^ c");
        is("- f(a = b)", "- f(a = b)");
        is("\\+ [a = b] = {c :- d}", "\\+ [a = b] = {c :- d}");
        is("(- a) ^ b", "(- a) ^ b");
        place("a = b ^ c = d", 10);
        House h = new House();
        h.first("op(0, xfx, :-), op(0, xfx, -->)");
        h.isTerm(":- a", 0, ":- a");
        h.isTerm("a :- b", 0, "place 2");
        h.isTerm(":- = a", 0, "(:-) = a");
        h.first("op(700, xfx, :-)");
        h.isTerm("- :- a", 0, "place 2");
        h.isTerm("a :- b", 0, "a :- b");
        House k = new House();
        k.first("op(0, fx, :-)");
        k.isTerm("- :- a", 0, "(-) :- a");
        k.isTerm("a :- b", 0, "a :- b");
        k.isTerm(":- a", 0, "place 3");
    }

    /** Else a token can't stand where it doesn't fit. */
    private static void fitting() {
        place(")", 0);
        place("]", 0);
        place("}", 0);
        place(",", 0);
        place("|", 0);
        place("a)", 1);
        place("a]", 1);
        place("a}", 1);
        place("a,", 2);
        place("(a]", 2);
        place("[a)", 2);
        place("{a)", 2);
        place("f(a]", 3);
        place("f()", 2);
        place("f(,)", 2);
        place("f(a,)", 4);
        place("[a,]", 3);
        place("[|a]", 1);
        place("[a|]", 3);
        place("[a|b,c]", 4);
        place("[a|b|c]", 4);
        place("()", 1);
        place("(,)", 1);
        place("= a", 2);
        place("* a", 2);
        place("a = ", 4);
        place("a = )", 4);
        is("= = a", "(=) = a");
        place("a - )", 4);
        place("X Y", 2);
        place("f(a) g", 5);
        place("[a] b", 4);
        place("{a} b", 4);
        place("(a) b", 4);
        place("(a)(b)", 3);
        place("[a](b)", 3);
    }

    /** Operators told by op: of both kinds, strength 0, 1 and 1200. */
    private static void toldOperators() {
        House h = new House();
        h.first("op(1200, xfx, top), op(1, xfx, low), op(700, fx, pre), op(700, xfx, pre), op(100, yfx, lft), op(999, fx, arg)");
        h.isTerm("a top b", 0, "a top b");
        h.isTerm("a top b top c", 0, "place 8");
        h.isTerm("f(a top b)", 0, "place 4");
        h.isTerm("(a low b) low c", 0, "(a low b) low c");
        h.isTerm("a low b low c", 0, "place 8");
        h.isTerm("pre a", 0, "pre a");
        h.isTerm("a pre b", 0, "a pre b");
        h.isTerm("pre pre a", 0, "place 4");
        h.isTerm("pre (pre a)", 0, "pre (pre a)");
        h.isTerm("pre pre", 0, "pre (pre)");
        h.isTerm("a lft b lft c", 0, "a lft b lft c");
        h.isTerm("lft(a, lft(b, c))", 0, "a lft (b lft c)");
        h.isTerm("f(arg a)", 0, "f(arg a)");
        h.isTerm("[arg a|arg b]", 0, "[arg a|arg b]");
        h.first("op(1000, fx, arg)");
        h.isTerm("f(arg a)", 0, "place 2");
        h.isTerm("f((arg a))", 0, "f((arg a))");
        h.isTerm("f(arg)", 0, "f(arg)");
        h.first("op(0, xfx, pre)");
        h.isTerm("a pre b", 0, "place 2");
        h.isTerm("pre a", 0, "pre a");
        h.first("op(699, xfx, o699), op(700, xfx, o700), op(1199, xfx, o1199), op(399, xfx, o399), op(400, xfx, o400)");
        h.isTerm("a = b o699 c", 0, "a = b o699 c");
        h.isTerm("a o699 b = c", 0, "a o699 b = c");
        h.isTerm("=(o699(a, b), o699(c, d))", 0, "a o699 b = c o699 d");
        h.isTerm("=(o700(a, b), o700(c, d))", 0, "(a o700 b) = (c o700 d)");
        h.isTerm("a = b o700 c", 0, "place 6");
        h.isTerm(":- a o1199 b", 0, ":- a o1199 b");
        h.isTerm(":-(o1199(a, b))", 0, ":- a o1199 b");
        h.isTerm("a o1199 b :- c o1199 d", 0, "a o1199 b :- c o1199 d");
        h.isTerm("*(o400(a, b), o400(c, d))", 0, "a o400 b * (c o400 d)");
        h.isTerm("*(o399(a, b), o399(c, d))", 0, "a o399 b * c o399 d");
        h.first("op(0, xfx, [o699, o700, o1199, o399, o400])");
        h.first("op(0, fy, -), op(0, yfx, -)");
        h.isTerm("- 1", 0, "place 2");
        h.isTerm("-1", 0, "-1");
        h.isTerm("1 - 1", 0, "place 2");
        h.isTerm("-(1, 2)", 0, "-(1,2)");
        h.isTerm("[-, a]", 0, "[-,a]");
        h.first("op(200, xfy, 'Odd one'), op(700, xfx, '\\n')");
        h.isTerm("a 'Odd one' b", 0, "a 'Odd one' b");
        h.isTerm("a 'Odd one' b", 1, "a Odd one b");
        h.isTerm("a '\\n' b", 0, "a '\\n' b");
    }

    /** Atoms are QUOTED unless a NAME reads as them. */
    private static void quotes() {
        String[] plain = {"a", "aB_9", "[]", "{}", "!", ";", "+", "=..", ":-", "\\", "^", "#&$@?~", "./*", "...", "//"};
        for (String text : plain) {
            is("f('" + text.replace("\\", "\\\\") + "')", "f(" + text + ")");
        }
        String[] quoted = {"", "A", "_", "_a", "1", "1a", "a b", " a", "a ", "a-b", "aA!", "[", "]", "[a]", "[ ]", "{", "}", "(", ")",
            ",", "|", ".", "%", "/*", "/**/", "/*a", "\"", "`", "!!", ";;", "+a", "a+", "{}a", "[]a"};
        for (String text : quoted) {
            is("f('" + text + "')", "f('" + text + "')");
        }
    }

    /** \n \t \\ '' and \x..\ (small, two digits) for other bytes below 32 and 127. */
    private static void quotedBytes() {
        for (int b = 1; b < 128; b++) {
            String hex = (b < 16 ? "0" : "") + Integer.toHexString(b);
            String want = b == 10 ? "\\n" : b == 9 ? "\\t" : b == '\\' ? "\\\\" : b == '\'' ? "''"
                    : b < 32 || b == 127 ? "\\x" + hex + "\\" : String.valueOf((char) b);
            is("' \\x" + hex + "\\'", "' " + want + "'");
        }
    }

    /** In ( ) if the strength is above what may stand there. */
    private static void brackets() {
        is("f((a , b), (c :- d), (e ; f))", "f((a,b),(c :- d),(e ; f))");
        is("[(a , b)|(c :- d)]", "[(a,b)|(c :- d)]");
        is("{(a , b)}", "{a,b}");
        is("{(a :- b)}", "{a :- b}");
        is("-(-(a))", "- - a");
        is("-(-(1))", "- - 1");
        is("-(-1)", "- -1");
        is("\\+ (\\+ a)", "\\+ \\+ a");
        is(":-(:-(a))", ":- (:- a)");
        is("dynamic((a , b))", "dynamic a,b");
        is("dynamic(dynamic(a))", "dynamic (dynamic a)");
        is("(a :- b) :- c", "(a :- b) :- c");
        is("a :- (b :- c)", "a :- (b :- c)");
        is("(a , b) , c", "(a,b),c");
        is("a , (b , c)", "a,b,c");
        is("(a ; b) , c", "(a ; b),c");
        is("a , (b :- c)", "a,(b :- c)");
        is("(a = b) = c", "(a = b) = c");
        is("(a - b) - c", "a - b - c");
        is("a - (b - c)", "a - (b - c)");
        is("(a * b) - c", "a * b - c");
        is("(a - b) * c", "(a - b) * c");
        is("(a ^ b) ^ c", "(a ^ b) ^ c");
        is("(- a) ^ b", "(- a) ^ b");
        is("- (a ^ b)", "- a ^ b");
        is("(- a) * b", "- a * b");
        is("1 - (-1)", "1 - -1");
        is("1 - (- 1)", "1 - - 1");
        is("(-1) ^ 2", "-1 ^ 2");
        is("a = (\\+ b)", "a = (\\+ b)");
        is("\\+ (a , b)", "\\+ (a,b)");
    }

    /** An operator that is an atom, as an argument of an operator, in ( ). */
    private static void operatorAtoms() {
        is("- = +", "(-) = (+)");
        is("- (-)", "- (-)");
        is("a = (:-)", "a = (:-)");
        is("(dynamic) - (is)", "(dynamic) - (is)");
        is("(',') = a", "(',') = a");
        is("a , (;)", "a,(;)");
        is("(;) , a", "(;),a");
        is("f(-, ',', is)", "f(-,',',is)");
        is("[-, is|mod]", "[-,is|mod]");
        is("{-}", "{-}");
        is("-", "-");
        is("a = b", "a = b");
        is("[] = {}", "[] = {}");
        is("(!) = a", "! = a");
        h().isTerm("- = ','", 1, "(-) = (,)");
        h().isTerm("- = +", 2, "=(-,+)");
    }

    private static void canonically() {
        House h = new House();
        h.isTerm("1 + 2 * - 3", 2, "+(1,*(2,-(3)))");
        h.isTerm("{a, b}", 2, "{}(','(a,b))");
        h.isTerm("{}", 2, "{}");
        h.isTerm("[a, 'B'|C]", 2, "[a,'B'|_1]");
        h.isTerm("'.'(a, '.'(b, []))", 2, "[a,b]");
        h.isTerm("\\+ a", 2, "\\+(a)");
        h.isTerm("f(:-, ',')", 2, "f(:-,',')");
        h.isTerm("-(-1)", 2, "-(-1)");
        h.isTerm("f(A, B, A, _)", 2, "f(_1,_2,_1,_3)");
    }

    private static void plainly() {
        House h = new House();
        h.isTerm("'A b' + 'c''d' - ''", 1, "A b + c'd - ");
        h.isTerm("f('\\n', '\\x1\\', \"a\")", 1, "f(\n,\u0001,[97])");
        h.isTerm("{'A'}", 1, "{A}");
        h.isTerm("['A', (b :- 'C')]", 1, "[A,(b :- C)]");
        h.isTerm("f(X, Y, X)", 1, "f(_1,_2,_1)");
    }

    /** As they come first in what is written at a time. */
    private static void variables() {
        House h = new House();
        h.isTerm("f(B, A, _, _C, A, B, _)", 0, "f(_1,_2,_3,_4,_2,_1,_5)");
        h.isTerm("X", 0, "_1");
        h.isTerm("_", 0, "_1");
        h.isTerm("[A|A]", 0, "[_1|_1]");
        h.isTerm("A = B :- B", 0, "_1 = _2 :- _2");
        h.isWritten("write(f(Y, X)), write(X), write(Y), print_nothing ; true", "f(_1,_2)_1_1");
        h.consult("p(A, B, A). p(B, C, C) :- q(C, D).");
        House.same("each clause of a listing", h.listing("p/3"), "2: p(_1,_2,_1).\np(_1,_2,_2) :- q(_2,_3).\n");
    }

    /** All that is written QUOTED reads as it was. */
    private static void everyByte() {
        House h = new House();
        StringBuilder all = new StringBuilder();
        for (int b = 1; b < 128; b++) {
            all.append("\\x").append(Integer.toHexString(b)).append("\\");
        }
        String written = h.term("'" + all + "'", 0);
        h.isTerm(written, 0, written);
        String[] terms = {"- (- 1)", "- -1", "a - (b - c)", "[a,b|c]", "{a,b}", "f((a :- b),[(c,d)])", "(-) = (-)",
            "\\+ (a,b)", "1 - -1", "(- 1) ^ 2", "-1 ^ 2", "f(',','|','.')"};
        for (String text : terms) {
            String once = h.term(text, 0);
            h.isTerm(once, 0, once);
        }
    }
}
