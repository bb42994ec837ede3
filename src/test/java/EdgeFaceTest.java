/** The face at its edges, promise by promise: too small, too large, empty, full, refused. */
public final class EdgeFaceTest {
    private static final String STATE = "IllegalStateException";
    private static final String ARGUMENT = "IllegalArgumentException";
    private static final int BLANKS = 0x20202020;

    private interface Call {
        long get();
    }

    private static void is(String what, Call call, Object want) {
        String got;
        try {
            got = String.valueOf(call.get());
        } catch (IllegalStateException e) {
            got = STATE;
        } catch (IllegalArgumentException e) {
            got = ARGUMENT;
        }
        House.same(what, got, String.valueOf(want));
    }

    public static void main(String[] args) {
        fullTape();
        readTape();
        fullOut();
        fullResult();
        thrown();
        newObject();
        feed();
        end();
        consultErrors();
        consultPlaces();
        consultQueries();
        queryVariables();
        queryPlaces();
        nextEnds();
        value();
        variable();
        ball();
        term();
        listing();
        limit();
        words();
        clear();
        reset();
        countTexts();
        countProgram();
        countQuery();
        countTables();
        countConsult();
        House.finish();
    }

    private static int feedBlanks(House h) {
        return h.x.feed(BLANKS, BLANKS, BLANKS, BLANKS, BLANKS);
    }

    /** THE TAPE has at most 8192 bytes. */
    private static void fullTape() {
        House h = new House();
        for (int i = 1; i <= 409; i++) {
            House.same("feed " + i, feedBlanks(h), 20 * i);
        }
        is("8180 and 20", () -> feedBlanks(h), STATE);
        is("it changes nothing", () -> h.x.count(0), 8180);
        is("end(8173)", () -> h.x.end(8173), 8173);
        is("8173 and 20", () -> feedBlanks(h), STATE);
        is("end(8172)", () -> h.x.end(8172), 8172);
        is("8172 and 20", () -> h.x.feed(BLANKS, BLANKS, BLANKS, BLANKS, 0x20206162), 8192);
        is("8192 and 20", () -> feedBlanks(h), STATE);
        is("end(8193)", () -> h.x.end(8193), ARGUMENT);
        is("end(8192)", () -> h.x.end(8192), 8192);
        is("its last bytes are read", () -> h.x.term(0), 2);
        House.same("they are", h.result(), "ab");
    }

    /** A call that reads THE TAPE leaves it empty, whatever it answers. */
    private static void readTape() {
        House h = new House();
        String[] texts = {"p(1).", "p(1", "", ":- fail.", "p(X)", "p/1", "foo/1", "3"};
        for (String text : texts) {
            h.tape(text).x.consult();
            House.same("behind consult of " + text, h.x.count(0), 0);
            h.tape(text).x.query();
            House.same("behind query of " + text, h.x.count(0), 0);
            h.tape(text).x.term(0);
            House.same("behind term of " + text, h.x.count(0), 0);
            h.tape(text).x.listing();
            House.same("behind listing of " + text, h.x.count(0), 0);
        }
        h.tape("abc");
        is("term that throws", () -> h.x.term(3), ARGUMENT);
        House.same("behind it", h.x.count(0), 0);
        h.tape("abc");
        h.x.count(0);
        is("no call that does not read it changes it", () -> h.x.value(0), ARGUMENT);
        h.x.ball();
        h.x.clear();
        h.x.limit(100);
        h.x.reset();
        House.same("THE TAPE is there", h.x.count(0), 3);
    }

    /** OUT has at most 32768 bytes, more is lost. */
    private static void fullOut() {
        House h = new House();
        h.x.limit(30000);
        h.first("write(start), tab(20000)");
        h.first("tab(12762)");
        House.same("32767", h.x.count(2), 32767);
        h.first("write(a)");
        House.same("32768", h.x.count(2), 32768);
        h.first("write(b)");
        House.same("one more is lost", h.x.count(2), 32768);
        House.same("its WORK is counted", h.x.count(5), 2);
        is("its last byte", () -> h.x.out(32767), 'a' * (1L << 56));
        is("behind it", () -> h.x.out(32768), ARGUMENT);
        is("its first bytes", () -> h.x.out(0), 0x7374617274202020L);
        is("clear of a full OUT", () -> h.x.clear(), 32768);
        h.first("tab(29000)");
        h.first("tab(3766), write(xyz)");
        House.same("a part of a text is lost", h.x.count(2), 32768);
        is("what has place is there", () -> h.x.out(32766), 0x7879000000000000L);
    }

    /** RESULT has at most 32768 bytes, more is lost. */
    private static void fullResult() {
        House h = new House();
        h.consult("big(0, ab). big(N, f(T, T)) :- N > 0, M is N - 1, big(M, T).");
        h.query("big(11, T)");
        h.x.next();
        is("2048 of ab, f( and , and )", () -> h.x.value(0), 2048 * 2 + 2047 * 4);
        h.query("big(12, T)");
        h.x.next();
        is("4096 of ab", () -> h.x.value(0), 4096 * 2 + 4095 * 4);
        h.query("big(13, T)");
        h.x.next();
        is("8192 of ab", () -> h.x.value(0), 32768);
        is("its last byte", () -> h.x.word(32767) & 0xffffffffffffffL, 0);
        is("behind it", () -> h.x.word(32768), ARGUMENT);
        is("count(1)", () -> h.x.count(1), 32768);
        h.x.limit(30000);
        h.query("big(12, T), throw(f(T, T))");
        is("a ball", () -> h.x.next(), 2);
        is("beyond RESULT", () -> h.x.ball(), 32768);
        h.first("length(L, 140), maplist(=(" + "a".repeat(250) + "), L), assertz(p(L)), assertz(p(b)), fail");
        House.same("a listing beyond RESULT tells all clauses", h.tape("p/1").x.listing(), 2);
        is("its length", () -> h.x.count(1), 32768);
        h.first("retract(p([A|L])), assertz(p(L)), fail");
        h.first("retract(p([A, B, C, D, E, F, G, H, I, J|L])), assertz(p(L)), fail");
        House.same("a listing that has place", h.tape("p/1").x.listing(), 2);
        is("its length", () -> h.x.count(1), (3 + 129 * 251 - 1 + 4) + 6);
    }

    /** A call that throws changes nothing, but THE TAPE. */
    private static void thrown() {
        House h = new House();
        h.consult("p(1). p(2). :- write(abc).");
        h.query("p(X)");
        h.x.next();
        h.x.value(0);
        is("value(1)", () -> h.x.value(1), ARGUMENT);
        is("variable(-1)", () -> h.x.variable(-1), ARGUMENT);
        is("word(1)", () -> h.x.word(1), ARGUMENT);
        is("out(3)", () -> h.x.out(3), ARGUMENT);
        is("limit(99)", () -> h.x.limit(99), ARGUMENT);
        is("end(1)", () -> h.x.end(1), ARGUMENT);
        h.tape("zz");
        is("term(-1)", () -> h.x.term(-1), ARGUMENT);
        House.same("RESULT", h.result(), "1");
        House.same("OUT", h.out(), "abc");
        House.same("the query goes on", h.x.next() + h.value(0), "12");
        House.same("its WORK", h.x.count(5) + " " + h.x.count(6), "13 2");
        h.x.next();
        is("next behind the end", () -> h.x.next(), STATE);
        House.same("WORK behind the end", h.x.count(5) + " " + h.x.count(6) + " " + h.x.count(12), "13 2 0");
        is("LIMIT", () -> h.x.limit(20000), 20000);
    }

    /** Promise 1: nothing but what is FIXED. */
    private static void newObject() {
        House h = new House();
        for (int i = 0; i <= 12; i++) {
            House.same("count(" + i + ")", h.x.count(i), i == 7 ? 44 : 0);
        }
        is("next", () -> h.x.next(), STATE);
        is("value", () -> h.x.value(0), ARGUMENT);
        is("variable", () -> h.x.variable(0), ARGUMENT);
        is("word", () -> h.x.word(0), ARGUMENT);
        is("out", () -> h.x.out(0), ARGUMENT);
        is("ball", () -> h.x.ball(), 0);
        is("clear", () -> h.x.clear(), 0);
        is("LIMIT", () -> h.x.limit(20000), 20000);
        is("end(0)", () -> h.x.end(0), 0);
        is("consult of nothing", () -> h.x.consult(), 0);
        is("query of nothing", () -> h.x.query(), -1);
        is("term of nothing", () -> h.x.term(0), -1);
        is("listing of nothing", () -> h.x.listing(), -2);
        h.isAll("current_predicate(P)", "no");
        h.isAll("nb_getval(k, V)", "ball error(existence_error(variable,k),_1)");
    }

    /** Promise 2: the highest byte of each int comes first. */
    private static void feed() {
        House h = new House();
        is("feed", () -> h.x.feed(0x61626364, 0x65666768, 0x696a6b6c, 0x6d6e6f70, 0x71727374), 20);
        is("feed again", () -> h.x.feed(0x75767778, 0x797a5f30, 0x31323334, 0x35363738, 0x39414243), 40);
        is("term", () -> h.x.term(0), 40);
        House.same("its bytes", h.result(), "abcdefghijklmnopqrstuvwxyz_0123456789ABC");
        is("negative ints are bytes above 127", () -> h.x.feed(0x27808182, -1, -128, 0, 0), 20);
        is("they can't be read", () -> h.x.term(0), -1);
    }

    /** Promise 3: n 0 .. its length. */
    private static void end() {
        House h = new House();
        is("end(0) of an empty one", () -> h.x.end(0), 0);
        is("end(1) of an empty one", () -> h.x.end(1), ARGUMENT);
        h.x.feed(0x61626364, 0, 0, 0, 0);
        is("end(21) of 20", () -> h.x.end(21), ARGUMENT);
        is("end(-1)", () -> h.x.end(-1), ARGUMENT);
        is("end(min)", () -> h.x.end(Integer.MIN_VALUE), ARGUMENT);
        is("end(20) of 20", () -> h.x.end(20), 20);
        is("end(4)", () -> h.x.end(4), 4);
        is("end(5) of 4", () -> h.x.end(5), ARGUMENT);
        is("end(4) again", () -> h.x.end(4), 4);
        is("end(2)", () -> h.x.end(2), 2);
        is("the first two are kept", () -> h.x.term(0), 2);
        House.same("they are", h.result(), "ab");
        h.x.feed(0x61626364, 0, 0, 0, 0);
        is("end(0)", () -> h.x.end(0), 0);
        is("nothing is left", () -> h.x.count(0), 0);
    }

    /** Promise 4: an ERROR is counted, not thrown. */
    private static void consultErrors() {
        House h = new House();
        String[] wrong = {"X.", "X :- a.", "3.", "3 :- a.", "a :- 3.", "a :- b, 3.", "a :- (b ; 3 -> c).", "true.", "fail :- a.",
            "(a, b).", "(a ; b) :- c.", "append(a, b, c).", "'$r'(a, b, c).", "X --> a.", "3 --> a.", "a --> 3.",
            "a --> [b|c].", "a --> [b|X].", "a, b --> c.", "phrase(X) --> a.", "call(a) :- b.", "a --> b, {3}."};
        for (String text : wrong) {
            House.same(text, h.consult(text) + " " + h.x.count(10), "0 1");
        }
        House.same("none was added", h.x.count(3) + " " + h.x.count(4), "0 0");
        House.same("no ball", h.x.ball(), 0);
        House.same("others are", h.consult("X. a. 3. b."), 2);
        House.same("two ERRORS", h.x.count(10), 2);
        House.same("a body that is a variable", h.consult("c :- X.") + h.listing("c/0"), "11: c :- call(_1).\n");
    }

    private static void consultPlaces() {
        House h = new House();
        House.same("nothing", h.consult(""), 0);
        House.same("LAYOUT", h.consult(" \t\r\n % a"), 0);
        House.same("END alone", h.consult("."), -1);
        House.same("no END", h.consult("a"), -2);
        House.same("no END, LAYOUT", h.consult("a  "), -4);
        House.same("a second without END", h.consult("a. b"), -5);
        House.same("all before it is done", h.x.count(3), 1);
        House.same("what is behind is not", h.consult("b(1). b(2). b( . b(3)."), -16);
        House.same("two were added", h.listing("b/1"), "2: b(1).\nb(2).\n");
        House.same("of strength above 1200", h.consult("a :- b :- c."), -8);
        House.same("a :- G before it has run", h.consult(":- write(x). :- write(y). 'z"), -27);
        House.same("it has", h.out(), "xy");
        House.same("an ERROR before it is counted", h.consult("3. X. )") + " " + h.x.count(10), "-7 2");
        House.same("/* without its end", h.consult("a. /* b."), -4);
        House.same("a byte that is no token", h.consult("a. \u0000"), -4);
    }

    private static void consultQueries() {
        House h = new House();
        h.consult("p(1). p(2).");
        h.query("p(X)");
        h.x.next();
        h.consult("p(3). q.");
        House.same("clauses leave the query", h.x.count(12) + " " + h.x.next(), "1 1");
        h.consult("X. )");
        House.same("ERRORS and what can't stand, too", h.x.count(12), 1);
        h.consult("r. :- true. s.");
        House.same(":- G does not", h.x.count(12), 0);
        is("it is over", () -> h.x.next(), STATE);
        House.same("WORK is that of :- G", h.x.count(5), 1);
        h.consult(":- p(X), write(X), nl. :- fail. :- throw(x). :- p(X), X > 1.");
        House.same("first answers alone", h.out(), "1\n");
        House.same("no answer", h.x.count(11), 2);
        h.x.limit(100);
        h.consult(":- between(1, 1000, X), X < 0. :- true.");
        House.same("SPENT is no answer, too", h.x.count(11) + " " + h.x.count(5), "1 1");
        h.consult(":- b_setval(k, 1). :- b_getval(k, V).");
        House.same("each is a query of its own", h.ball(), "error(existence_error(variable,k),_1)");
        h.consult(":- X = 1, X == 1. :- X == 1.");
        House.same("with variables of its own", h.x.count(11), 1);
    }

    /** Promise 5: variables but those that begin with _. */
    private static void queryVariables() {
        House h = new House();
        House.same("none", h.query("true"), 0);
        House.same("_", h.query("f(_, _)"), 0);
        House.same("_A, __, _1", h.query("f(_A, __, _1, _A)"), 0);
        House.same("A", h.query("f(_A, A, _, A_, A)"), 2);
        is("the first", () -> h.x.variable(0), 1);
        is("the second", () -> h.x.variable(1), 2);
        House.same("its name", h.result(), "A_");
        is("no third", () -> h.x.variable(2), ARGUMENT);
        House.same("with END", h.query("X = Y."), 2);
        House.same("with END and LAYOUT", h.query(" X = Y. % end"), 2);
        StringBuilder many = new StringBuilder("f(A0");
        for (int i = 1; i < 255; i++) {
            many.append(",A").append(i);
        }
        House.same("255 of them", h.query(many.append(")").toString()), 255);
        is("the last", () -> h.x.variable(254), 4);
        House.same("its name", h.result(), "A254");
        is("no 256th", () -> h.x.variable(255), ARGUMENT);
    }

    private static void queryPlaces() {
        House h = new House();
        h.query("member(X, [1, 2])");
        h.x.next();
        House.same("nothing", h.query(""), -1);
        House.same("the query before is over", h.x.count(12), 0);
        is("next", () -> h.x.next(), STATE);
        House.same("END alone", h.query("."), -1);
        House.same("something lacks", h.query("f(a"), -4);
        House.same("something behind END", h.query("a. b"), -4);
        House.same("two ENDS", h.query("a. ."), -4);
        House.same("two terms", h.query("a b"), -3);
        House.same("strength above 1200 is none", h.query("a :- b --> c"), -8);
        House.same("strength 1200", h.query("a :- b"), 0);
        House.same("it is a query", h.x.count(12), 1);
        House.same("and another", h.query("member(Y, [3])"), 1);
        House.same("that is the present one", h.x.next() + h.value(0), "13");
    }

    private static void nextEnds() {
        House h = new House();
        is("no query", () -> h.x.next(), STATE);
        h.query("fail");
        is("0", () -> h.x.next(), 0);
        is("behind 0", () -> h.x.next(), STATE);
        h.query("throw(x)");
        is("2", () -> h.x.next(), 2);
        is("behind 2", () -> h.x.next(), STATE);
        h.x.limit(100);
        h.query("length(L, 1000)");
        is("3", () -> h.x.next(), 3);
        is("behind 3", () -> h.x.next(), STATE);
        h.query("member(X, [1, 2])");
        is("1", () -> h.x.next(), 1);
        is("1 again", () -> h.x.next(), 1);
        is("then none", () -> h.x.next(), 0);
        is("behind it", () -> h.x.next(), STATE);
        h.query("member(X, [1, 2]), X > 1, throw(x) ; true");
        is("a ball behind a failure", () -> h.x.next(), 2);
        h.query("true ; throw(x)");
        is("an answer", () -> h.x.next(), 1);
        is("then a ball", () -> h.x.next(), 2);
        h.query("true ; length(L, 1000)");
        is("an answer", () -> h.x.next(), 1);
        is("then SPENT", () -> h.x.next(), 3);
        h.query("true");
        h.x.reset();
        is("behind reset", () -> h.x.next(), STATE);
    }

    /** Promise 7. */
    private static void value() {
        House h = new House();
        h.query("member(X, [a, Y, 'B']), Z = _");
        is("none was", () -> h.x.value(0), STATE);
        is("none was, there is none", () -> h.x.value(3), ARGUMENT);
        h.x.next();
        is("value(-1)", () -> h.x.value(-1), ARGUMENT);
        is("value(0)", () -> h.x.value(0), 1);
        is("value(2)", () -> h.x.value(2), 2);
        is("value(3)", () -> h.x.value(3), ARGUMENT);
        is("value(max)", () -> h.x.value(Integer.MAX_VALUE), ARGUMENT);
        h.x.next();
        House.same("the latest answer", h.value(0), "_1");
        h.x.next();
        House.same("QUOTED", h.value(0), "'B'");
        h.x.next();
        is("behind 0", () -> h.x.value(0), STATE);
        is("behind 0, there is none", () -> h.x.value(3), ARGUMENT);
        h.query("X = 1 ; throw(x)");
        is("of the next query, none yet", () -> h.x.value(0), STATE);
        h.x.next();
        is("its answer", () -> h.x.value(0), 1);
        h.x.next();
        is("behind a ball", () -> h.x.value(0), STATE);
        h.x.limit(100);
        h.query("X = 1 ; length(X, 1000)");
        h.x.next();
        h.x.next();
        is("behind SPENT", () -> h.x.value(0), STATE);
        valueBetween();
        valueWhenOver();
    }

    /** What does not end the query leaves its answer. */
    private static void valueBetween() {
        House h = new House();
        h.query("member(X, [f(Y), 2])");
        h.x.next();
        h.consult("p(1). 3. )");
        h.term("g(A, B, [c])", 0);
        h.listing("p/1");
        h.x.limit(200);
        h.x.clear();
        House.same("the latest answer still", h.value(0) + " " + h.x.count(6), "f(_1) 1");
        House.same("the next one", h.x.next() + " " + h.value(0) + " " + h.x.count(6), "1 2 2");
    }

    /** A query() that can't stand, and :- G, end the query: it has no answer then, but still its variables. */
    private static void valueWhenOver() {
        House h = new House();
        h.query("member(X, [1, Y])");
        h.x.next();
        int work = h.x.count(5);
        House.same("it can't stand", h.query("A = )"), -5);
        is("there is no query but the one that is over", () -> h.x.value(0), STATE);
        is("nor another variable", () -> h.x.value(2), ARGUMENT);
        is("its second variable", () -> h.x.variable(1), 1);
        House.same("its NAME", h.result(), "Y");
        House.same("its WORK, its answers", h.x.count(5) + " " + h.x.count(6) + " " + h.x.count(12), work + " 1 0");
        h.query("member(X, [1, 2])");
        h.x.next();
        h.consult("p(1). :- fail. q.");
        is("over by :- G", () -> h.x.value(0), STATE);
        is("no other variable", () -> h.x.value(1), ARGUMENT);
        is("its variable", () -> h.x.variable(0), 1);
        House.same("WORK of :- G, its own answers", h.x.count(5) + " " + h.x.count(6) + " " + h.x.count(12), "1 1 0");
        h.query("X = 7");
        is("of a new one, none yet", () -> h.x.value(0), STATE);
        House.same("its answer", h.x.next() + " " + h.value(0) + " " + h.x.count(6), "1 7 1");
    }

    private static void variable() {
        House h = new House();
        is("none yet", () -> h.x.variable(0), ARGUMENT);
        h.query("X = f(_Y, Long_name_9, X)");
        is("variable(-1)", () -> h.x.variable(-1), ARGUMENT);
        is("variable(0)", () -> h.x.variable(0), 1);
        is("variable(1)", () -> h.x.variable(1), 11);
        House.same("as written", h.result(), "Long_name_9");
        is("variable(2)", () -> h.x.variable(2), ARGUMENT);
        h.x.next();
        is("when the query is over", () -> h.x.variable(1), 11);
        h.query("true");
        is("of a query without", () -> h.x.variable(0), ARGUMENT);
        String name = "V" + "a".repeat(299);
        h.query(name + " = 1");
        is("a name of 300 bytes", () -> h.x.variable(0), 300);
        House.same("it is", h.result(), name);
    }

    /** Promise 9: 0 for none yet; the latest stays. */
    private static void ball() {
        House h = new House();
        is("none yet", () -> h.x.ball(), 0);
        h.first("true");
        h.first("fail");
        h.first("catch(throw(a), _, true)");
        h.x.limit(100);
        h.first("length(L, 1000)");
        h.consult("3. a :- 3.");
        is("none yet of these", () -> h.x.ball(), 0);
        h.first("throw(f(X, 'A', Y, X))");
        House.same("QUOTED", h.ball(), "f(_1,'A',_2,_1)");
        h.first("true");
        h.query("f(");
        House.same("the latest stays", h.ball(), "f(_1,'A',_2,_1)");
        h.consult(":- throw(b).");
        House.same("of :- G", h.ball(), "b");
        h.consult(":- throw(c). :- true. :- fail.");
        House.same("of :- G before others", h.ball(), "c");
        h.first("op(700, xfx, ===>), throw(===>(a, b))");
        House.same("by the operators", h.ball(), "a ===> b");
        h.first("op(0, xfx, ===>)");
        House.same("of then", h.ball(), "a ===> b");
        h.first("op(700, xfx, ~~>)");
        h.first("catch(throw(~~>(a, b)), none, true)");
        House.same("a catch that does not take it", h.ball(), "a ~~> b");
        h.x.reset();
        is("behind reset", () -> h.x.ball(), 0);
    }

    /** Promise 10. */
    private static void term() {
        House h = new House();
        h.isTerm("- 'A' + {b}", 0, "- 'A' + {b}");
        h.isTerm("- 'A' + {b}", 1, "- A + {b}");
        h.isTerm("- 'A' + {b}", 2, "+(-('A'),{}(b))");
        h.tape("a");
        is("term(-1)", () -> h.x.term(-1), ARGUMENT);
        h.tape("a");
        is("term(3)", () -> h.x.term(3), ARGUMENT);
        h.tape("f(");
        is("term(3) of what can't stand", () -> h.x.term(3), ARGUMENT);
        House.same("RESULT is as it was", h.result(), "+(-('A'),{}(b))");
        h.isTerm("", 0, "place 0");
        h.isTerm("a b", 1, "place 2");
        h.isTerm("a. b", 2, "place 3");
        h.isTerm("a.", 0, "a");
        h.isTerm("a :- b", 0, "a :- b");
        h.isTerm("''", 1, "");
        House.same("an empty RESULT", h.x.count(1), 0);
    }

    /** Promise 11. */
    private static void listing() {
        House h = new House();
        h.consult("p(1). p(X) :- q(X), r. :- dynamic(d/2). z. 'A b'(1, 2). l(0) :- true. :- dynamic(g/0). g.");
        House.same("clauses", h.listing("p/1"), "2: p(1).\np(_1) :- q(_1),r.\n");
        House.same("none of it", h.listing("d/2"), "0: ");
        House.same("RESULT is empty then", h.x.count(1), 0);
        House.same("an atom", h.listing("z/0"), "1: z.\n");
        House.same("QUOTED", h.listing("'A b' / 2 ."), "1: 'A b'(1,2).\n");
        House.same("H with B true", h.listing("l/1"), "1: l(0).\n");
        House.same("another arity", h.listing("p/2"), "-1");
        House.same("another name", h.listing("q/1"), "-1");
        House.same("FIXED", h.listing("atom_length/2"), "-1");
        House.same("DEFINED", h.listing("member/2"), "-1");
        House.same("DEFINED within", h.listing("'$n'/4"), "-1");
        String[] none = {"p", "1", "X", "p/X", "X/1", "p/a", "1/1", "f(p)/1", "p/1/1", "p-1", "p/", "/", "p/1 q"};
        for (String text : none) {
            House.same("none such: " + text, h.listing(text), "-2");
        }
        h.first("retract(z)");
        House.same("known for good", h.listing("z/0"), "0: ");
        h.query("p(X)");
        h.listing("p/1");
        House.same("a query goes on", h.x.next(), 1);
    }

    /** Promise 12: from the next query on, 100 .. 30000. */
    private static void limit() {
        House h = new House();
        is("limit(99)", () -> h.x.limit(99), ARGUMENT);
        is("limit(0)", () -> h.x.limit(0), ARGUMENT);
        is("limit(-100)", () -> h.x.limit(-100), ARGUMENT);
        is("limit(30001)", () -> h.x.limit(30001), ARGUMENT);
        is("limit(max)", () -> h.x.limit(Integer.MAX_VALUE), ARGUMENT);
        is("the first one", () -> h.x.limit(30000), 20000);
        is("30000", () -> h.x.limit(100), 30000);
        is("100", () -> h.x.limit(101), 100);
        is("101", () -> h.x.limit(500), 101);
        h.query("tab(498) ; tab(1)");
        h.x.limit(100);
        House.same("the query that there is keeps its own", h.x.next() + " " + h.x.count(5), "3 501");
        h.query("tab(98)");
        House.same("the next has it", h.x.next() + " " + h.x.count(5), "1 100");
        h.x.limit(200);
        h.consult(":- tab(198).");
        House.same(":- G is a query, too", h.x.count(11) + " " + h.x.count(5), "0 200");
        h.consult(":- tab(199).");
        House.same("beyond it", h.x.count(11) + " " + h.x.count(5), "1 201");
    }

    /** Promises 13 and 14: zeros behind its end. */
    private static void words() {
        House h = new House();
        h.term("abcdefghij", 0);
        is("word(0)", () -> h.x.word(0), 0x6162636465666768L);
        is("word(1)", () -> h.x.word(1), 0x6263646566676869L);
        is("word(2)", () -> h.x.word(2), 0x636465666768696aL);
        is("word(3)", () -> h.x.word(3), 0x6465666768696a00L);
        is("word(9)", () -> h.x.word(9), 0x6a00000000000000L);
        is("word(10)", () -> h.x.word(10), ARGUMENT);
        is("word(-1)", () -> h.x.word(-1), ARGUMENT);
        is("word(max)", () -> h.x.word(Integer.MAX_VALUE), ARGUMENT);
        h.term("z", 0);
        is("a shorter RESULT", () -> h.x.word(0), 0x7a00000000000000L);
        is("word(1) of it", () -> h.x.word(1), ARGUMENT);
        is("out(0) of nothing", () -> h.x.out(0), ARGUMENT);
        h.first("write(abcdefghij)");
        is("out(0)", () -> h.x.out(0), 0x6162636465666768L);
        is("out(3)", () -> h.x.out(3), 0x6465666768696a00L);
        is("out(9)", () -> h.x.out(9), 0x6a00000000000000L);
        is("out(10)", () -> h.x.out(10), ARGUMENT);
        is("out(-1)", () -> h.x.out(-1), ARGUMENT);
        h.x.clear();
        is("behind clear", () -> h.x.out(0), ARGUMENT);
        h.first("write(z)");
        is("a shorter OUT", () -> h.x.out(0), 0x7a00000000000000L);
        h.first("put_char('\\x7f\\'), put_char('\\x1\\')");
        is("all bytes", () -> h.x.out(0), 0x7a7f010000000000L);
    }

    private static void clear() {
        House h = new House();
        is("of an empty OUT", () -> h.x.clear(), 0);
        h.first("write(abc)");
        is("of three bytes", () -> h.x.clear(), 3);
        is("of an empty one again", () -> h.x.clear(), 0);
        is("count", () -> h.x.count(2), 0);
        h.query("member(X, [1, 2]), write(X)");
        h.x.next();
        is("in the middle of a query", () -> h.x.clear(), 1);
        h.x.next();
        House.same("it goes on", h.out(), "2");
    }

    /** Promise 16: all is as at first, but for THE TAPE, RESULT. */
    private static void reset() {
        House h = new House();
        h.consult("p(1). :- dynamic(d/1). :- op(700, xfx, ===>). :- op(0, xfx, is). :- nb_setval(k, 1). :- write(out). "
                + ":- table t/1. t(1). :- t(_). :- throw(b). 3. q --> [a]. :- op(200, xfy, -).");
        h.x.limit(100);
        h.query("p(X)");
        h.x.next();
        h.x.value(0);
        h.tape("p(Y)");
        h.x.reset();
        int[] want = {4, 1, 0, 0, 0, 0, 0, 44, 0, 0, 0, 0, 0};
        for (int i = 0; i < want.length; i++) {
            House.same("count(" + i + ")", h.x.count(i), want[i]);
        }
        House.same("RESULT", h.result(), "1");
        is("no query", () -> h.x.next(), STATE);
        is("no variables", () -> h.x.variable(0), ARGUMENT);
        is("no answer", () -> h.x.value(0), ARGUMENT);
        is("OUT is empty", () -> h.x.out(0), ARGUMENT);
        is("THE TAPE is there", () -> h.x.query(), 1);
        is("no clauses", () -> h.x.next(), 2);
        House.same("nothing is known", h.ball(), "error(existence_error(procedure,p / 1),_1)");
        h.isAll("d(X)", "ball error(existence_error(procedure,d / 1),_1)");
        h.isAll("t(X)", "ball error(existence_error(procedure,t / 1),_1)");
        h.isAll("nb_getval(k, X)", "ball error(existence_error(variable,k),_1)");
        h.isTerm("a ===> b", 0, "place 2");
        h.isTerm("a is 1 - 2 - 3", 0, "a is 1 - 2 - 3");
        is("LIMIT", () -> h.x.limit(100), 20000);
        House.same("consult", h.consult("t(1). t(1)."), 2);
        h.isAll("t(X)", "X = 1; X = 1; no");
        House.same("not told to table any more", h.x.count(8), 0);
        h.x.reset();
        h.x.reset();
        h.isAll("member(X, [a])", "X = a; no");
    }

    /** Promise 17: 0, 1, 2, and others. */
    private static void countTexts() {
        House h = new House();
        for (int what : new int[] {-1, 13, 100, Integer.MIN_VALUE, Integer.MAX_VALUE}) {
            House.same("count(" + what + ")", h.x.count(what), -1);
        }
        h.x.feed(0x61202020, 0, 0, 0, 0);
        House.same("20 bytes of THE TAPE", h.x.count(0), 20);
        h.x.end(1);
        House.same("1 byte", h.x.count(0), 1);
        h.x.term(0);
        House.same("none", h.x.count(0) + " " + h.x.count(1), "0 1");
        h.x.ball();
        House.same("RESULT is empty", h.x.count(1), 0);
        h.first("write(ab)");
        House.same("OUT", h.x.count(2), 2);
        h.first("write(cd)");
        House.same("more", h.x.count(2), 4);
        h.x.clear();
        House.same("none", h.x.count(2), 0);
    }

    private static void countProgram() {
        House h = new House();
        House.same("clauses, predicates, operators", h.x.count(3) + " " + h.x.count(4) + " " + h.x.count(7), "0 0 44");
        h.consult("p(1). p(2). q --> [a].");
        House.same("of consult", h.x.count(3) + " " + h.x.count(4), "3 2");
        h.first("assertz(p(3)), asserta(r(1))");
        House.same("of assertz, asserta", h.x.count(3) + " " + h.x.count(4), "5 3");
        h.first("retract(p(1)), retract(r(1))");
        House.same("of retract; known for good", h.x.count(3) + " " + h.x.count(4), "3 3");
        h.first("retractall(p(_)), retractall(new(_))");
        House.same("of retractall; H becomes known", h.x.count(3) + " " + h.x.count(4), "1 4");
        h.first("dynamic([a/1, b/2]), dynamic(p/1)");
        House.same("of dynamic", h.x.count(3) + " " + h.x.count(4), "1 6");
        h.first("append([1], [2], L), foo(1)");
        House.same("calls change nothing", h.x.count(3) + " " + h.x.count(4), "1 6");
        h.first("op(200, xfy, &), op(200, xfy, [a, b])");
        House.same("operators", h.x.count(7), 47);
        h.first("op(300, yfx, &), op(300, xfx, a)");
        House.same("told anew", h.x.count(7), 47);
        h.first("op(300, fy, &)");
        House.same("as a prefix one too", h.x.count(7), 48);
        h.first("op(0, xfx, &), op(0, fx, none), op(0, xfx, is)");
        House.same("those that go", h.x.count(7), 46);
    }

    private static void countQuery() {
        House h = new House();
        h.query("member(X, [1, 2])");
        House.same("none yet", h.x.count(5) + " " + h.x.count(6) + " " + h.x.count(12), "0 0 1");
        h.x.next();
        House.same("the first answer", h.x.count(5) + " " + h.x.count(6) + " " + h.x.count(12), (1 + 5 + 6 + 1) + " 1 1");
        h.x.next();
        int second = h.x.count(5);
        House.same("the second", h.x.count(6) + " " + h.x.count(12), "2 1");
        h.x.next();
        House.same("the end", (h.x.count(5) > second) + " " + h.x.count(6) + " " + h.x.count(12), "true 2 0");
        h.query("true");
        House.same("of the next query", h.x.count(5) + " " + h.x.count(6) + " " + h.x.count(12), "0 0 1");
        h.x.next();
        House.same("its answer", h.x.count(5) + " " + h.x.count(6) + " " + h.x.count(12), "1 1 1");
        h.consult("p(1). :- call(true).");
        House.same("WORK of :- G", h.x.count(5) + " " + h.x.count(12), "2 0");
        h.query("throw(x)");
        h.x.next();
        House.same("of a ball", h.x.count(5) + " " + h.x.count(6) + " " + h.x.count(12), "2 0 0");
    }

    private static void countTables() {
        House h = new House();
        h.consult(":- table t/1. t(1). t(2).");
        House.same("no TABLES yet", h.x.count(8) + " " + h.x.count(9), "0 0");
        h.first("t(X)");
        House.same("one, two answers", h.x.count(8) + " " + h.x.count(9), "1 2");
        h.first("t(1)");
        House.same("two, three answers", h.x.count(8) + " " + h.x.count(9), "2 3");
        h.first("t(3)");
        House.same("one without answers", h.x.count(8) + " " + h.x.count(9), "3 3");
        h.first("t(Y)");
        House.same("a variant", h.x.count(8) + " " + h.x.count(9), "3 3");
        h.first("abolish_all_tables");
        House.same("none", h.x.count(8) + " " + h.x.count(9), "0 0");
    }

    private static void countConsult() {
        House h = new House();
        h.consult("3. :- fail. a. X. :- true. :- throw(x).");
        House.same("ERRORS, :- G without an answer", h.x.count(10) + " " + h.x.count(11), "2 2");
        h.consult("b.");
        House.same("of the latest consult", h.x.count(10) + " " + h.x.count(11), "0 0");
        h.consult("3. :- fail. )");
        House.same("of one that can't stand", h.x.count(10) + " " + h.x.count(11), "1 1");
        h.first("fail");
        h.first("throw(x)");
        House.same("queries change nothing", h.x.count(10) + " " + h.x.count(11), "1 1");
        h.consult("");
        House.same("of nothing", h.x.count(10) + " " + h.x.count(11), "0 0");
    }
}
