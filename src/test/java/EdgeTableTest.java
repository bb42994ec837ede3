/** Goals that WAIT and TABLES at their edges; objects that are used for as many calls as they may be. */
public final class EdgeTableTest {
    private static final String FULL = "ball error(resource_error(tables),_1)";

    public static void main(String[] args) {
        freeze();
        freezeOrder();
        dif();
        difFails();
        whereLooked();
        backtracking();
        tableCount();
        tableCountInARun();
        answerCount();
        tableRoom();
        variants();
        rounds();
        innerBalls();
        leaderBalls();
        overInARun();
        abolish();
        sweptTables();
        leaderAgain();
        manyWaits();
        keptAtoms();
        longIntegers();
        manyCalls();
        House.finish();
    }

    private static void freeze() {
        House h = new House();
        h.isAll("freeze(X, true)", "X = _1; no");
        h.isAll("freeze(X, fail)", "X = _1; no");
        h.isAll("freeze(X, fail), X = 1", "no");
        h.isAll("freeze(a, fail)", "no");
        h.isAll("freeze(f(_), Y = 1)", "Y = 1; no");
        h.isAll("freeze(X, fail), X = Y", "X = _1, Y = _1; no");
        h.isAll("freeze(X, fail), X = Y, Y = 1", "no");
        h.isAll("freeze(X, Y = X), X = f(Z)", "X = f(_1), Y = f(_1), Z = _1; no");
        h.isAll("freeze(X, 3)", "X = _1; no");
        h.isAll("freeze(X, 3), X = 1", "ball error(type_error(callable,3),_1)");
        h.isAll("freeze(X, Y), X = 1", "ball error(instantiation_error,_1)");
        h.isAll("freeze(X, Y), Y = true, X = 1", "X = 1, Y = true; no");
        h.isAll("freeze(1, G)", "ball error(instantiation_error,_1)");
        h.isAll("freeze(X, (!, fail ; true)), X = 1", "no");
        h.isAll("freeze(X, (Y = 1 ; Y = 2)), X = a", "X = a, Y = 1; X = a, Y = 2; no");
        h.isAll("freeze(X, fail), copy_term(X, Y), Y = 1", "X = _1, Y = 1; no");
        h.isAll("freeze(X, fail), findall(X, true, [Y]), Y = 1", "X = _1, Y = 1; no");
    }

    /** Several in order, ahead of the body; freeze ahead of the call(G) that it calls. */
    private static void freezeOrder() {
        House h = new House();
        h.consult("p(1, 2) :- write(body). q(X) :- X = 1, write(q).");
        h.isWritten("freeze(Y, write(a)), freeze(X, write(b)), p(X, Y)", "abbody");
        h.isWritten("freeze(X, write(a)), freeze(X, write(b)), freeze(X, write(c)), X = 1, write(d)", "abcd");
        h.isWritten("freeze(X, write(a)), q(X), write(z)", "aqz");
        h.isWritten("freeze(X, (write(a), Y = 1, write(b))), freeze(Y, write(c)), X = 1, write(d)", "acbd");
        h.isWritten("freeze(X, write(a)), freeze(X, (write(b), Y = 1)), freeze(Y, write(c)), freeze(X, write(d)), X = 1", "abcd");
        h.isWritten("freeze(X, write(x)), freeze(1, write(one)), write(y)", "oney");
        h.isWritten("freeze(X, write(x)), catch(throw(1), X, freeze(2, write(two))), write(y)", "xtwoy");
        h.isWritten("freeze(X, write(x)), catch(throw(1), X, true), write(y)", "yx");
        h.isWritten("freeze(X, write(a)), \\+ \\+ X = 1, write(b)", "ab");
        h.isWritten("freeze(X, write(a)), findall(X, member(X, [1, 2]), _), write(b)", "aab");
    }

    /** A dif whose terms don't unify is over, one whose terms are the same fails. */
    private static void dif() {
        House h = new House();
        h.isAll("dif(a, b)", "yes; no");
        h.isAll("dif(a, a)", "no");
        h.isAll("dif(X, X)", "no");
        h.isAll("dif(X, Y)", "X = _1, Y = _1; no");
        h.isAll("dif(f(X), f(X))", "no");
        h.isAll("dif(f(X, a), f(b, Y))", "X = _1, Y = _1; no");
        h.isAll("dif(f(X, a), f(b, Y)), X = b", "X = b, Y = _1; no");
        h.isAll("dif(f(X, a), f(b, Y)), X = b, Y = a", "no");
        h.isAll("dif(f(X, a), f(b, Y)), X = c, Y = a", "X = c, Y = a; no");
        h.isAll("dif(X, f(X))", "X = _1; no");
        h.isAll("dif(X, Y), Y = Z, X = Z", "no");
        h.isAll("dif(X, a), X = Y, Y = a", "no");
        h.isAll("dif(X, a), X = Y, Y = b", "X = b, Y = b; no");
        h.isAll("X = a, dif(X, a)", "no");
        h.isAll("dif([X, Y], [1, 2]), member(X, [1, 3]), member(Y, [2, 4])",
                "X = 1, Y = 4; X = 3, Y = 2; X = 3, Y = 4; no");
    }

    /** No goal is called if a dif fails, wherever it stands. */
    private static void difFails() {
        House h = new House();
        h.isWritten("freeze(X, write(a)), dif(X, 1), X = 1 ; write(end)", "end");
        h.isWritten("dif(X, 1), freeze(X, write(a)), X = 1 ; write(end)", "end");
        h.isWritten("freeze(X, write(a)), dif(Y, 1), freeze(X, write(b)), f(X, Y) = f(0, 1) ; write(end)", "end");
        h.isWritten("freeze(X, write(a)), dif(X, 2), X = 1 ; write(end)", "a");
        h.isAll("dif(X, 1), dif(X, 2), dif(X, 3), member(X, [1, 2, 3, 4])", "X = 4; no");
    }

    /** Behind clauses, answers of TABLES and FIXED predicates; not behind control. */
    private static void whereLooked() {
        House h = new House();
        h.consult("n(1). :- table t/1. t(1). t(2).");
        h.isWritten("freeze(X, write(w)), n(X), write(z)", "wz");
        h.isAll("dif(X, 1), t(X)", "X = 2; no");
        h.isWritten("freeze(X, write(w)), t(X), write(z)", "wz");
        h.isWritten("freeze(X, write(w)), findall(1, true, [X]), write(z)", "wz");
        h.isWritten("freeze(X, write(w)), bagof(1, true, [X]), write(z)", "wz");
        h.isWritten("freeze(X, write(w)), between(1, 3, X), write(z)", "wz");
        h.isWritten("freeze(X, write(w)), atom_length(abc, X), write(z)", "wz");
        h.isWritten("freeze(X, write(w)), b_setval(k, 1), b_getval(k, X), write(z)", "wz");
        h.isWritten("freeze(X, write(w)), catch(throw(1), X, true), true, !, call(true), once(true), write(z)", "zw");
        h.isWritten("freeze(X, write(w)), catch(throw(1), X, true), phrase([], []), write(z)", "wz");
        h.isWritten("freeze(X, write(w)), catch(throw(1), X, true), nl, write(z)", "\nwz");
    }

    private static void backtracking() {
        House h = new House();
        h.isWritten("(freeze(X, write(a)) ; true), X = 1, write(b), fail ; write(end)", "abbend");
        h.isWritten("freeze(X, write(a)), (X = 1 ; X = 2), write(b), fail ; write(end)", "ababend");
        h.isAll("(dif(X, 1) ; true), X = 1", "X = 1; no");
        h.isAll("dif(X, 1), (X = 2, fail ; X = 1)", "no");
        h.isAll("dif(f(X, Y), f(1, 1)), (X = 2 ; X = 1), Y = 1", "X = 2, Y = 1; no");
        h.isWritten("freeze(X, write(a)), catch((X = 1, throw(b)), b, true), write(c), X = 2", "aca");
    }

    private static void tableCount() {
        House h = new House();
        h.consult(":- table t/1. t(_). :- table u/1. u(1).");
        h.isAll("between(1, 99, X), t(X), X >= 99", "X = 99; no");
        House.same("99", h.x.count(8) + " " + h.x.count(9), "99 99");
        h.isAll("t(100)", "yes; no");
        House.same("100", h.x.count(8) + " " + h.x.count(9), "100 100");
        h.isAll("t(101)", FULL);
        h.isAll("u(5)", FULL);
        House.same("100 still", h.x.count(8) + " " + h.x.count(9), "100 100");
        h.isAll("t(1), t(100)", "yes; no");
        h.isAll("catch(t(101), error(E, _), true)", "E = resource_error(tables); no");
        h.isAll("abolish_all_tables, t(101), u(5)", "no");
        House.same("as before", h.x.count(8) + " " + h.x.count(9), "2 1");
    }

    /** A ball of the 101st TABLE that leaves the leader's run: those that are not COMPLETE go. */
    private static void tableCountInARun() {
        House h = new House();
        h.x.limit(30000);
        h.consult(":- table c/1. c(N) :- N > 0, M is N - 1, c(M). c(0).");
        h.isAll("c(99)", "yes; no");
        House.same("100", h.x.count(8), 100);
        h.x.reset();
        h.x.limit(30000);
        h.consult(":- table c/1. c(N) :- N > 0, M is N - 1, c(M). c(0).");
        h.isAll("c(100)", FULL);
        House.same("all go", h.x.count(8) + " " + h.x.count(9), "0 0");
        h.isAll("c(5)", "yes; no");
        House.same("six", h.x.count(8) + " " + h.x.count(9), "6 6");
    }

    /** 2000 answers in all. */
    private static void answerCount() {
        House h = new House();
        h.x.limit(30000);
        h.consult(":- table u/2, v/2. u(_, X) :- between(1, 21, X). v(N, X) :- between(1, N, X). "
                + "fill(A, B) :- between(A, B, K), u(K, _), K >= B.");
        for (int i = 0; i < 95; i += 5) {
            h.isFirst("fill(" + (i + 1) + ", " + (i + 5) + ")", "yes");
        }
        House.same("1995", h.x.count(8) + " " + h.x.count(9), "95 1995");
        h.isFirst("v(6, X)", FULL);
        House.same("it is not COMPLETE", h.x.count(8) + " " + h.x.count(9), "95 1995");
        h.isFirst("v(5, X)", "X = 1");
        House.same("2000", h.x.count(8) + " " + h.x.count(9), "96 2000");
        h.isFirst("v(1, X)", FULL);
        h.isFirst("v(0, X)", "no");
        House.same("one without answers", h.x.count(8) + " " + h.x.count(9), "97 2000");
        h.isFirst("u(7, X), X > 20", "X = 21");
        h.isFirst("abolish_all_tables, v(6, X)", "X = 1");
    }

    /** 8000 ROOM of calls and answers. */
    private static void tableRoom() {
        House h = new House();
        h.x.limit(30000);
        h.consult(":- table t/1. t(_). :- table f/1. f(_) :- fail. big(N, T) :- functor(T, g, N).");
        // A call and an answer of 252 each: 15 TABLES have 7560; 440 are left.
        for (int i = 1; i <= 15; i++) {
            h.isTrue("big(250, T), arg(1, T, " + i + "), t(T)");
        }
        House.same("15", h.x.count(8), 15);
        h.isFirst("big(219, T), t(T)", FULL);
        h.isTrue("big(218, T), t(T)");
        House.same("8000 exactly", h.x.count(8) + " " + h.x.count(9), "16 16");
        h.isFirst("f(1)", FULL);
        h.isFirst("t(1)", FULL);
        h.isFirst("abolish_all_tables, f(1)", "no");
        House.same("room again", h.x.count(8), 1);
        h.first("abolish_all_tables");
        for (int i = 1; i <= 15; i++) {
            h.isTrue("big(250, T), arg(1, T, " + i + "), t(T)");
        }
        h.isFirst("big(219, T), t(T)", FULL);
        h.isTrue("big(218, T), t(T)");
        House.same("8000 again", h.x.count(8) + " " + h.x.count(9), "16 16");
        House k = new House();
        k.x.limit(30000);
        k.consult(":- table f/1. f(_) :- fail.");
        // Calls of 250 alone: 32 of them are 8000; a NAME of eight bytes is one more.
        k.first("between(1, 16, I), functor(T, g, 248), arg(1, T, I), \\+ f(T), I >= 16, T = a");
        k.first("between(17, 31, I), functor(T, g, 248), arg(1, T, I), \\+ f(T), I >= 31, T = a");
        House.same("31 calls of 250", k.x.count(8), 31);
        k.isFirst("functor(T, g, 248), arg(1, T, eightbyt), f(T)", FULL);
        k.isFirst("functor(T, g, 248), arg(1, T, sevenby), f(T)", "no");
        House.same("32 calls of 250", k.x.count(8), 32);
        k.isFirst("f(1)", FULL);
    }

    private static void variants() {
        House h = new House();
        h.consult(":- table t/2. t(X, Y) :- X = Y. t(1, 2).");
        h.isAll("t(A, B)", "A = _1, B = _1; A = 1, B = 2; no");
        House.same("one", h.x.count(8) + " " + h.x.count(9), "1 2");
        h.first("t(C, D)");
        House.same("a variant", h.x.count(8), 1);
        h.isAll("t(A, A)", "A = _1; no");
        House.same("none", h.x.count(8), 2);
        h.first("t(A, B), A = B");
        House.same("a variant when it is called", h.x.count(8), 2);
        h.first("A = B, t(A, B)");
        House.same("of the other", h.x.count(8), 2);
        h.isAll("t(1, B)", "B = 1; B = 2; no");
        House.same("three", h.x.count(8) + " " + h.x.count(9), "3 5");
        h.consult(":- table s/1. s(f(_)). s(f(_)). s(f(a)). s(f(_)).");
        h.isAll("s(X)", "X = f(_1); X = f(a); no");
    }

    /** A TABLE is run at its first call in each ROUND; as long as one brings a new answer there is another. */
    private static void rounds() {
        House h = new House();
        h.consult(":- table p/1. p(1). p(X) :- p(Y), Y < 4, X is Y + 1. p(X) :- write(r), fail.");
        h.isAll("p(X)", "X = 1; X = 2; X = 3; X = 4; no");
        House.same("a run for each answer, and one that brings none", h.out(), "rrrr");
        h.x.clear();
        h.isFirst("p(X)", "X = 1");
        House.same("COMPLETE: not run any more", h.out(), "");
        h.consult(":- table a/0, b/0. a :- write(a), b, b, fail. b :- write(b), fail. b.");
        h.isAll("a", "no");
        House.same("b is run once in each ROUND", h.out(), "abab");
        House.same("both are COMPLETE", h.x.count(8) + " " + h.x.count(9), "3 5");
    }

    private static void innerBalls() {
        House h = new House();
        h.consult(":- table d/1, c/1. c(2). c(_) :- throw(inner). d(X) :- catch(c(X), inner, X = caught). d(X) :- c(X).");
        h.isAll("d(X)", "X = caught; X = 2; no");
        House.same("its answers stay", h.x.count(8) + " " + h.x.count(9), "2 3");
        h.isAll("c(X)", "X = 2; no");
    }

    private static void leaderBalls() {
        House h = new House();
        h.consult(":- table ok/1. ok(1). :- table a/1, b/1. a(X) :- ok(X). a(X) :- b(X). b(1). b(2) :- throw(oops).");
        h.isAll("ok(X)", "X = 1; no");
        h.isAll("a(X)", "ball oops");
        House.same("COMPLETE ones stay", h.x.count(8) + " " + h.x.count(9), "1 1");
        h.isAll("catch(a(X), oops, true), ok(Y)", "X = _1, Y = 1; no");
        House.same("COMPLETE ones stay", h.x.count(8) + " " + h.x.count(9), "1 1");
        h.isAll("catch(b(X), oops, true), catch(b(Y), E, true)", "X = _1, Y = _1, E = oops; no");
    }

    private static void overInARun() {
        House h = new House();
        h.consult(":- table ok/1. ok(1). :- table l/1. l(0). l(X) :- l(Y), X is Y + 1.");
        h.first("ok(X)");
        h.isAll("l(X)", "spent");
        House.same("those that are not COMPLETE go", h.x.count(8) + " " + h.x.count(9), "1 1");
        h.isAll("l(X)", "spent");
        h.isAll("ok(X)", "X = 1; no");
        h.consult(":- l(X).");
        House.same("of :- G, too", h.x.count(8) + " " + h.x.count(9) + " " + h.x.count(11), "1 1 1");
    }

    /** All COMPLETE ones go, no others; answers that are being given are. */
    private static void abolish() {
        House h = new House();
        h.consult(":- table t/1, u/1. t(1). t(2). u(X) :- t(X), abolish_all_tables. u(9).");
        h.isAll("abolish_all_tables", "yes; no");
        h.isAll("t(X), abolish_all_tables", "X = 1; X = 2; no");
        House.same("none", h.x.count(8) + " " + h.x.count(9), "0 0");
        h.isAll("u(X)", "X = 1; X = 2; X = 9; no");
        House.same("those that ran stay", h.x.count(8) + " " + h.x.count(9), "2 5");
        h.isAll("abolish_all_tables, t(X)", "X = 1; X = 2; no");
    }

    /** TABLES that went give their room free; those that stay are as they were. */
    private static void sweptTables() {
        House h = new House();
        h.consult(":- table t/1, u/1, w/1. t(1). t(2). u(X) :- t(X), abolish_all_tables. u(f(X, b)). w(X) :- u(X). w(c).");
        h.isAll("t(X)", "X = 1; X = 2; no");
        h.isAll("w(X)", "X = 1; X = 2; X = f(_1,b); X = c; no");
        String tables = h.x.count(8) + " " + h.x.count(9);
        h.isAll("u(X)", "X = 1; X = 2; X = f(_1,b); no");
        h.isAll("w(X)", "X = 1; X = 2; X = f(_1,b); X = c; no");
        h.isAll("u(f(a, Y))", "Y = b; no");
        h.isAll("w(X)", "X = 1; X = 2; X = f(_1,b); X = c; no");
        h.isAll("abolish_all_tables, w(X)", "X = 1; X = 2; X = f(_1,b); X = c; no");
        House.same("as before", h.x.count(8) + " " + h.x.count(9), tables);
    }

    /** Behind a run that was SPENT another leads, whichever place its TABLE has. */
    private static void leaderAgain() {
        House h = new House();
        h.consult(":- table ok/1. ok(1). :- table l/1. l(0). l(X) :- l(Y), X is Y + 1. :- table p/1. p(1). "
                + "p(X) :- p(Y), Y < 4, X is Y + 1.");
        h.first("ok(X)");
        h.isAll("l(X)", "spent");
        h.first("abolish_all_tables");
        h.isAll("p(X)", "X = 1; X = 2; X = 3; X = 4; no");
        h.isAll("ok(X)", "X = 1; no");
        h.isAll("l(X)", "spent");
        h.consult(":- abolish_all_tables. :- catch(throw(a), _, true). :- p(X).");
        h.isAll("p(X)", "X = 1; X = 2; X = 3; X = 4; no");
        h.first("abolish_all_tables");
        h.consult("p(X) :- X == 5, throw(five). p(X) :- p(5).");
        h.isAll("p(X)", "ball five");
        h.isAll("ok(X)", "X = 1; no");
        h.isAll("catch(p(X), five, true)", "X = _1; no");
    }

    private static void manyWaits() {
        House h = new House();
        h.consult("f(0, _). f(N, X) :- N > 0, freeze(X, (nb_getval(n, A), B is A + 1, nb_setval(n, B))), M is N - 1, f(M, X). "
                + "d(0, _). d(N, X) :- N > 0, dif(X, N), M is N - 1, d(M, X).");
        h.isAll("nb_setval(n, 0), f(60, X), X = 1, nb_getval(n, N)", "X = 1, N = 60; no");
        h.isAll("d(40, X), member(X, [1, 20, 40, 41])", "X = 41; no");
    }

    /** Atoms that only TABLES, values, or a goal that is about to run still have. */
    private static void keptAtoms() {
        House h = new House();
        h.consult(":- table t/2. t(X, Y) :- atom_concat(X, '_tabled', Y). many(I) :- between(1, 700, X), Y is X + I * 1000, "
                + "atom_concat(only, Y, A), fail.");
        h.isAll("atom_concat(a, b, X), t(X, Y)", "X = ab, Y = ab_tabled; no");
        h.isAll("atom_concat(b, c, X), atom_concat(X, '_value', Y), nb_setval(k, Y)", "X = bc, Y = bc_value; no");
        for (int i = 0; i < 6; i++) {
            h.work("many(" + i + ")");
        }
        h.isAll("t(ab, Y)", "Y = ab_tabled; no");
        h.isAll("nb_getval(k, X)", "X = bc_value; no");
        House.same("one TABLE", h.x.count(8), 1);
        for (int i = 0; i < 6; i++) {
            h.consult(":- many(" + (10 + i) + "). :- writeq([fresh_atom" + i + ", other]), writeq(last" + i + "(x)).");
            House.same(":- G", h.out(), "[fresh_atom" + i + ",other]last" + i + "(x)");
            h.x.clear();
        }
    }

    /** Variants of long integers. */
    private static void longIntegers() {
        House h = new House();
        h.consult(":- table t/1. t(9223372036854775807). t(9223372036854775806). t(9223372036854775807). t(X) :- X == 4.");
        h.isAll("t(X)", "X = 9223372036854775807; X = 9223372036854775806; no");
        h.isAll("t(9223372036854775807)", "yes; no");
        House.same("two", h.x.count(8), 2);
        h.isAll("t(9223372036854775807), t(9223372036854775806)", "yes; no");
        House.same("three", h.x.count(8) + " " + h.x.count(9), "3 4");
        h.isAll("t(9223372036854775805)", "no");
    }

    private static String battery(House h) {
        StringBuilder s = new StringBuilder();
        String[] queries = {"member(X, [a, b])", "append(X, [c], [b, c])", "bagof(X, member(X - Y, [1 - b, 2 - a, 3 - b]), L)",
            "freeze(X, Y = 1), X = 2", "dif(X, a), member(X, [a, b])", "p(X)", "t(X)", "phrase(g(X), [a])", "nb_getval(k, X)",
            "catch(foo, E, true)", "X = a ~> b"};
        for (String query : queries) {
            s.append(h.all(query)).append(' ').append(h.x.count(5)).append('\n');
        }
        return s.toString();
    }

    /** A long run of calls answers at its end as a short one does. */
    private static void manyCalls() {
        String program = "p(1). p(2). :- table t/1. t(x). g(X) --> [X]. :- nb_setval(k, f(_)). :- op(700, xfx, ~>). :- t(_).";
        House few = new House();
        few.consult(program);
        String due = battery(few);
        House many = new House();
        many.consult(program);
        int battery = few.x.calls;
        for (int i = 0; many.x.calls + battery + 20 < House.MOST_CALLS; i++) {
            many.consult(i % 3 == 0 ? ":- assertz(q(" + i + "))." : "q(X) :- 3.");
            many.first(i % 2 == 0 ? "between(1, 400, X), atom_concat(x, X, A), fail" : "throw(x" + i + ")");
            many.x.clear();
        }
        House.same("behind many calls", battery(many), due);
    }
}
