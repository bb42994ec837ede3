/** The calls of the face: ordinary inputs, the edges that the document names, wrong inputs. */
public final class FaceTest {
    private static final String STATE = "IllegalStateException";
    private static final String ARGUMENT = "IllegalArgumentException";

    private interface Call {
        long get();
    }

    private static String answer(Call call) {
        try {
            return String.valueOf(call.get());
        } catch (IllegalStateException e) {
            return STATE;
        } catch (IllegalArgumentException e) {
            return ARGUMENT;
        }
    }

    private static void is(String what, Call call, Object want) {
        House.same(what, answer(call), String.valueOf(want));
    }

    public static void main(String[] args) {
        newObject();
        tape();
        consult();
        queries();
        values();
        balls();
        terms();
        listings();
        limits();
        output();
        reset();
        counts();
        House.finish();
    }

    private static void newObject() {
        House.Counted x = new House.Counted();
        int[] want = {0, 0, 0, 0, 0, 0, 0, 44, 0, 0, 0, 0, 0};
        for (int i = 0; i < want.length; i++) {
            House.same("count(" + i + ") of a new object", x.count(i), want[i]);
        }
        House.same("count(-1)", x.count(-1), -1);
        House.same("count(13)", x.count(13), -1);
        is("next of a new object", x::next, STATE);
        is("value of a new object", () -> x.value(0), ARGUMENT);
        is("variable of a new object", () -> x.variable(0), ARGUMENT);
        is("word of a new object", () -> x.word(0), ARGUMENT);
        is("out of a new object", () -> x.out(0), ARGUMENT);
        is("ball of a new object", x::ball, 0);
        House h = new House();
        h.isAll("append(X, [c], [b, c])", "X = [b]; no");
        h.isAll("foo", "ball error(existence_error(procedure,foo / 0),_1)");
    }

    private static void tape() {
        House.Counted x = new House.Counted();
        is("end(1) of nothing", () -> x.end(1), ARGUMENT);
        is("end(-1)", () -> x.end(-1), ARGUMENT);
        is("end(0)", () -> x.end(0), 0);
        is("feed", () -> x.feed(0x61626364, 0x65666768, 0x696a6b6c, 0x6d6e6f70, 0x71727374), 20);
        is("end(21)", () -> x.end(21), ARGUMENT);
        is("the tape behind it", () -> x.count(0), 20);
        is("end(3)", () -> x.end(3), 3);
        is("feed behind three", () -> x.feed(0x20203d20, 0x78202020, 0x20202020, 0x20202020, 0x20202020), 23);
        is("term", () -> x.term(0), 7);
        is("its bytes", () -> x.word(0), 0x616263203d207800L);
        is("a tape that was read", () -> x.count(0), 0);
        for (int i = 1; i <= 409; i++) {
            int due = 20 * i;
            is("feed " + i, () -> x.feed(0x20202020, 0x20202020, 0x20202020, 0x20202020, 0x20202020), due);
        }
        is("feed beyond 8192", () -> x.feed(0, 0, 0, 0, 0), STATE);
        is("the full tape", () -> x.count(0), 8180);
        is("end(8172)", () -> x.end(8172), 8172);
        is("feed to 8192", () -> x.feed(0x20202020, 0x20202020, 0x20202020, 0x20202020, 0x20202061), 8192);
        is("one byte more", () -> x.feed(0, 0, 0, 0, 0), STATE);
        is("term of a full tape", () -> x.term(1), 1);
    }

    private static void consult() {
        House h = new House();
        House.same("consult of nothing", h.consult("  % nothing\n /* at all */ "), 0);
        House.same("consult", h.consult("p(1). p(2).\nq(X) :- p(X)."), 3);
        House.same("consult with ERRORS", h.consult("X. 3. p(3). X :- a. p(4) :- 1. true. (a, b). p(5) :- (a ; 2)."), 1);
        House.same("its ERRORS", h.x.count(10), 7);
        House.same("no directive failed", h.x.count(11), 0);
        House.same("directives", h.consult(":- assertz(r(1)), write(a). :- fail. :- foo. :- X. :- p(X), X > 1. s."), 1);
        House.same("directives without an answer", h.x.count(11), 3);
        House.same("ERRORS of a consult without", h.x.count(10), 0);
        House.same("what they wrote", h.out(), "a");
        House.same("ball of a directive", h.ball(), "error(instantiation_error,_1)");
        House.same("a text that breaks off", h.consult("t(1). t(2). t(3"), -16);
        House.same("what was before it is there", h.listing("t/1"), "2: t(1).\nt(2).\n");
        House.same("a text that can't stand", h.consult("u(1). u(2) u(3). u(4)."), -12);
        House.same("what is behind it is not", h.listing("u/1"), "1: u(1).\n");
        House.same("the tape", h.x.count(0), 0);
        House.same("operators hold from the next clause on", h.consult(":- op(700, xfx, ===>). a ===> b."), 1);
        h.isAll("X ===> Y", "X = a, Y = b; no");
        h.query("p(X)");
        h.x.next();
        h.consult("p(9).");
        House.same("a query goes on behind clauses", h.x.next(), 1);
        House.same("with the clauses of then", h.value(0), "2");
        House.same("one more", h.x.next() + h.value(0), "13");
        House.same("and no more", h.x.next(), 0);
        h.query("p(X)");
        h.x.next();
        h.consult(":- true.");
        is("a query is over behind a directive", () -> h.x.next(), STATE);
        House.same("WORK of the directive", h.x.count(5), 1);
    }

    private static void queries() {
        House h = new House();
        House.same("variables of a query", h.query("p(X, _Y, _, Z, X)"), 2);
        House.same("there is a query", h.x.count(12), 1);
        House.same("no WORK yet", h.x.count(5), 0);
        House.same("with END", h.query("true ."), 0);
        House.same("its answer", h.x.next(), 1);
        House.same("answers", h.x.count(6), 1);
        House.same("it is not over", h.x.count(12), 1);
        House.same("no more", h.x.next(), 0);
        House.same("it is over", h.x.count(12), 0);
        is("next behind the end", () -> h.x.next(), STATE);
        h.query("member(X, [1,2])");
        h.x.next();
        House.same("a bad query", h.query("member(X, [1,2"), -15);
        is("next behind a bad query", () -> h.x.next(), STATE);
        House.same("a query with something behind END", h.query("a. b"), -4);
        House.same("an empty query", h.query(""), -1);
        House.same("an empty query with LAYOUT", h.query("  "), -3);
        House.same("a ball", h.query("throw(x)") + h.x.next(), 2);
        is("next behind a ball", () -> h.x.next(), STATE);
        h.consult("loop :- loop.");
        House.same("SPENT", h.query("loop") + h.x.next(), 3);
        is("next behind SPENT", () -> h.x.next(), STATE);
        House.same("WORK of SPENT", h.x.count(5), 20001);
    }

    private static void values() {
        House h = new House();
        h.query("member(Longer_name1, [a, 'B c', [X|Y], \"hi\", - 1])");
        is("value before next", () -> h.x.value(0), STATE);
        is("value of none before next", () -> h.x.value(3), ARGUMENT);
        h.x.next();
        House.same("value 0", h.value(0), "a");
        House.same("value 1", h.value(1), "_1");
        is("value(-1)", () -> h.x.value(-1), ARGUMENT);
        is("value(3)", () -> h.x.value(3), ARGUMENT);
        House.same("RESULT stays as it was", h.result(), "_1");
        is("variable(0)", () -> h.x.variable(0), 12);
        House.same("its name", h.result(), "Longer_name1");
        is("variable(3)", () -> h.x.variable(3), ARGUMENT);
        is("variable(-1)", () -> h.x.variable(-1), ARGUMENT);
        h.x.next();
        House.same("QUOTED", h.value(0), "'B c'");
        h.x.next();
        House.same("variables are numbered in each value", h.value(0) + h.value(2), "[_1|_2]_1");
        h.x.next();
        House.same("codes", h.value(0), "[104,105]");
        h.x.next();
        House.same("operators", h.value(0), "- 1");
        h.x.next();
        is("value behind the end", () -> h.x.value(0), STATE);
        is("value of none behind the end", () -> h.x.value(3), ARGUMENT);
        h.consult("big(0, x). big(N, f(T, T)) :- N > 0, M is N - 1, big(M, T).");
        h.query("big(40, T)");
        h.x.next();
        is("more than RESULT can hold is lost", () -> h.x.value(0), 32768);
        is("its last byte", () -> h.x.word(32767) >>> 56 > 0 ? 1 : 0, 1);
        is("behind it", () -> h.x.word(32768), ARGUMENT);
    }

    private static void balls() {
        House h = new House();
        House.same("none yet", h.ball(), "");
        h.first("catch(throw(a), a, true)");
        House.same("one that was caught", h.ball(), "");
        h.first("throw('A'(X, X, Y))");
        House.same("nobody caught it", h.ball(), "'A'(_1,_1,_2)");
        h.first("true");
        House.same("the latest stays", h.ball(), "'A'(_1,_1,_2)");
        h.first("op(700, xfx, ===>), throw(===>(a, b))");
        h.first("op(0, xfx, ===>)");
        House.same("by the operators of then", h.ball(), "a ===> b");
    }

    private static void terms() {
        House h = new House();
        h.isTerm("f(X, 'A', \"b\", {c}, 1 + 2)", 0, "f(_1,'A',[98],{c},1 + 2)");
        h.isTerm("f(X, 'A', \"b\", {c}, 1 + 2) .", 1, "f(_1,A,[98],{c},1 + 2)");
        h.isTerm("f(X, 'A', \"b\", {c}, 1 + 2)", 2, "f(_1,'A',[98],{}(c),+(1,2))");
        h.isTerm("f(X", 0, "place 3");
        House.same("RESULT stays as it was", h.result(), "f(_1,'A',[98],{}(c),+(1,2))");
        h.tape("a");
        is("term(3)", () -> h.x.term(3), ARGUMENT);
        is("it has read the tape", () -> h.x.count(0), 0);
        h.tape("a");
        is("term(-1)", () -> h.x.term(-1), ARGUMENT);
        h.query("member(X, [1,2])");
        h.x.next();
        h.term("f(Y, Z)", 0);
        House.same("a term leaves the query alone", h.value(0) + h.x.next() + h.value(0), "112");
    }

    private static void listings() {
        House h = new House();
        h.consult("p(X, Y) :- q(X), \\+ r(Y). p('A', _). p(X, Y) :- X. :- dynamic(d/0).");
        House.same("listing", h.listing("p/2"),
                "3: p(_1,_2) :- q(_1),\\+ r(_2).\np('A',_1).\np(_1,_2) :- call(_1).\n");
        House.same("listing of none", h.listing("d/0"), "0: ");
        House.same("no such predicate", h.listing("q/1"), "-1");
        House.same("FIXED", h.listing("append/3"), "-1");
        House.same("FIXED control", h.listing("call/1"), "-1");
        for (String text : new String[] {"p", "p/x", "3/2", "X/2", "p/2/3", "p/(", "", "p/256", "p/(-1)"}) {
            House.same("none such: " + text, h.listing(text), "-2");
        }
    }

    private static void limits() {
        House h = new House();
        is("limit(99)", () -> h.x.limit(99), ARGUMENT);
        is("limit(30001)", () -> h.x.limit(30001), ARGUMENT);
        is("limit(100)", () -> h.x.limit(100), 20000);
        is("limit(30000)", () -> h.x.limit(30000), 100);
        h.query("between(1, 100000, X), X > 100000");
        h.x.limit(100);
        h.x.next();
        House.same("LIMIT of then holds", h.x.count(5), 30001);
        h.consult(":- between(1, 100000, X), X > 100000.");
        House.same("LIMIT holds for directives", h.x.count(5), 101);
        h.query("between(1, 33, X), fail");
        House.same("all that LIMIT allows", h.x.next() + " " + h.x.count(5), "3 101");
    }

    private static void output() {
        House h = new House();
        h.first("write('0123456789ab')");
        is("out(0)", () -> h.x.out(0), 0x3031323334353637L);
        is("out(8)", () -> h.x.out(8), 0x3839616200000000L);
        is("out(11)", () -> h.x.out(11), 0x6200000000000000L);
        is("out(12)", () -> h.x.out(12), ARGUMENT);
        is("out(-1)", () -> h.x.out(-1), ARGUMENT);
        is("clear", () -> h.x.clear(), 12);
        is("clear of nothing", () -> h.x.clear(), 0);
        is("out behind clear", () -> h.x.out(0), ARGUMENT);
        h.x.limit(30000);
        h.first("tab(20000)");
        h.first("tab(20000)");
        House.same("more than OUT can hold is lost", h.x.count(2), 32768);
        h.x.clear();
        h.first("write(a), tab(30000)");
        House.same("a text that passes LIMIT: nothing of it", h.out(), "a");
        h.tape("abcdefghi").x.term(0);
        is("word(0)", () -> h.x.word(0), 0x6162636465666768L);
        is("word(8)", () -> h.x.word(8), 0x6900000000000000L);
        is("word(9)", () -> h.x.word(9), ARGUMENT);
        is("word(-1)", () -> h.x.word(-1), ARGUMENT);
    }

    private static void reset() {
        House h = new House();
        h.consult("p(1). :- table t/1. t(1). :- op(700, xfx, ===>). :- nb_setval(k, 1). :- write(x). :- throw(x). 3.");
        h.first("t(X)");
        h.term("abc", 0);
        h.x.limit(500);
        h.query("member(X, [1,2])");
        h.x.next();
        h.tape("true");
        h.x.reset();
        int[] want = {4, 3, 0, 0, 0, 0, 0, 44, 0, 0, 0, 0, 0};
        for (int i = 0; i < want.length; i++) {
            House.same("count(" + i + ") behind reset", h.x.count(i), want[i]);
        }
        House.same("RESULT stays", h.result(), "abc");
        is("no query", () -> h.x.next(), STATE);
        is("no variables", () -> h.x.value(0), ARGUMENT);
        is("the tape stays", () -> h.x.query(), 0);
        House.same("no ball", h.ball(), "");
        is("LIMIT", () -> h.x.limit(100), 20000);
        h.x.limit(20000);
        h.isAll("p(X)", "ball error(existence_error(procedure,p / 1),_1)");
        h.isAll("nb_getval(k, X)", "ball error(existence_error(variable,k),_1)");
        h.isTerm("a ===> b", 0, "place 2");
        h.isAll("member(X, [a,b])", "X = a; X = b; no");
    }

    private static void counts() {
        House h = new House();
        h.consult("p(1). p(2). q(3). :- dynamic(r/1). :- retract(p(1)). :- op(200, xfy, &). :- table t/1. t(1). t(2).");
        House.same("clauses", h.x.count(3), 4);
        House.same("operators", h.x.count(7), 45);
        h.all("t(X)");
        House.same("TABLES", h.x.count(8), 1);
        House.same("answers in them", h.x.count(9), 2);
        House.same("answers of the query", h.x.count(6), 2);
        h.first("retractall(p(_)), retractall(s(_))");
        House.same("predicates are known for good", h.x.count(4), 5);
    }
}
