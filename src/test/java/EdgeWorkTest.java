/**
 * WORK at its edge: for each kind of thing that is counted a run whose WORK is LIMIT exactly, and one that passes it by
 * 1. Each number is counted by hand from the document.
 */
public final class EdgeWorkTest {
    private static final int NO = 0;
    private static final int YES = 1;
    private static final int BALL = 2;
    private static final int SPENT = 3;
    /** Of tab(N), G: the , and two goals are looked at, the , is called, then tab with its expression. */
    private static final int PAD = 3 + 1 + 2;

    private static String program = "";
    private static int limit;
    private static int pad;

    public static void main(String[] args) {
        control();
        calls();
        heads();
        unification();
        comparing();
        copies();
        balls();
        collected();
        clauses();
        values();
        expressions();
        terms();
        lists();
        texts();
        solutions();
        phrase();
        waiting();
        tables();
        thrownFirst();
        notDone();
        outAtTheEdge();
        wholeQueries();
        House.finish();
    }

    /** A house in which tab(N), goal is asked, with a LIMIT that is as much, or less by 1. */
    private static House asked(String goal, int work, int more) {
        limit = Math.max(100, PAD + work);
        pad = limit - PAD - work + more;
        House h = new House();
        h.consult(program);
        h.x.clear();
        h.x.limit(limit);
        h.query("tab(" + pad + "), " + goal);
        return h;
    }

    /** Wherever in the goal LIMIT is passed: the query is over, with WORK of LIMIT + 1. */
    private static void edge(String goal, int work, int answer) {
        House h = asked(goal, work, 0);
        House.same("WORK of LIMIT: " + goal, h.x.next() + " " + h.x.count(5), answer + " " + limit);
        for (int more = 1; more <= work; more++) {
            h = asked(goal, work, more);
            House.same("WORK of LIMIT + " + more + ": " + goal, h.x.next() + " " + h.x.count(5) + " " + h.x.count(12),
                    SPENT + " " + (limit + 1) + " 0");
        }
    }

    private static void control() {
        program = "";
        edge("true", 1, YES);
        edge("fail", 1, NO);
        edge("!", 1, YES);
        edge("\\+ fail", 1 + 1, YES);
        edge("\\+ true", 1 + 1, NO);
        edge("call(true)", 1 + 1, YES);
        edge("call((true, true))", 1 + 3 + 1 + 1 + 1, YES);
        edge("call((true ; fail))", 1 + 3 + 1 + 1, YES);
        edge("call((fail ; true))", 1 + 3 + 1 + 1 + 1, YES);
        edge("call((true -> true))", 1 + 3 + 1 + 1 + 1, YES);
        edge("call((fail -> true))", 1 + 3 + 1 + 1, NO);
        edge("call((true -> true ; fail))", 1 + 5 + 1 + 1 + 1, YES);
        edge("call((fail -> fail ; true))", 1 + 5 + 1 + 1 + 1, YES);
        edge("call((true *-> true ; fail))", 1 + 5 + 1 + 1 + 1, YES);
        edge("call((fail *-> fail ; true))", 1 + 5 + 1 + 1 + 1, YES);
        edge("call((true *-> true))", 1 + 3 + 1 + 1 + 1, YES);
        edge("once(true)", 1 + 3 + 1 + 1 + 1, YES);
        edge("once(fail)", 1 + 3 + 1 + 1, NO);
        edge("ignore(true)", 1 + 5 + 1 + 1 + 1, YES);
        edge("ignore(fail)", 1 + 5 + 1 + 1 + 1, YES);
        edge("forall(true, true)", 1 + 1 + 3 + 1 + 1 + 1 + 1, YES);
        edge("forall(fail, true)", 1 + 1 + 3 + 1 + 1, YES);
        edge("once((true, true))", 1 + 5 + 1 + 3 + 1, YES);
        edge("\\+ (fail, true)", 1 + 3 + 1 + 1, YES);
    }

    private static void calls() {
        program = "p(1). n. r(X) :- X. s :- n, n.";
        edge("call(p, 1)", 1 + 1 + (1 + 1 + 3 + 1), YES);
        edge("call(=, X, a)", 1 + 2 + (1 + 2), YES);
        edge("call(=(X), a)", 1 + 2 + (1 + 2), YES);
        edge("call(',', true, true)", 1 + 2 + 3 + 3, YES);
        edge("n", 1 + 2 + 1, YES);
        edge("s", 1 + 4 + 1 + 4 + 4, YES);
        edge("r(n)", 1 + 1 + 4 + 1 + 4, YES);
        edge("call((n, X))", 1 + 3 + 1 + 4 + 1 + 3, BALL);
        edge("call((1, n))", 1 + 2 + 7, BALL);
        edge("call((n, 1))", 1 + 3 + 7, BALL);
        edge("call((n ; n, 1))", 1 + 5 + 9, BALL);
        edge("unknown(a)", 1 + 7, BALL);
        program = ":- table told/1.";
        edge("told(a)", 1 + 7, BALL);
    }

    /** Of clauses: PAIRS of the arguments, then, if it is TAKEN, the SIZE. */
    private static void heads() {
        program = "p(1). v(X). w(X, X). s(g(h, X)). t(f(X), X). m(1). m(2). m(3). b(9223372036854775807).";
        edge("p(1)", 1 + 1 + 3 + 1, YES);
        edge("p(2)", 1 + 1, NO);
        edge("p(a)", 1 + 1, NO);
        edge("p(f(a))", 1 + 1, NO);
        edge("p(X)", 1 + 2 + 3 + 1, YES);
        edge("v(f(a))", 1 + 1 + 3 + 1, YES);
        edge("v(X)", 1 + 1 + 3 + 1, YES);
        edge("w(f(A), f(b))", 1 + 1 + (1 + 2) + 4 + 1, YES);
        edge("w(Y, Y)", 1 + 1 + 1 + 4 + 1, YES);
        edge("w(f(a, Y), f(a, Y))", 1 + 1 + 3 + 4 + 1, YES);
        edge("w(f(a, b), f(b, b))", 1 + 1 + 2, NO);
        edge("w(Y, f(Y))", 1 + 1 + 1 + 2, NO);
        edge("s(Y)", 1 + 1 + 3 + 5 + 1, YES);
        edge("s(g(A, B))", 1 + 1 + (1 + 1) + 1 + 5 + 1, YES);
        edge("s(g(a, B))", 1 + 1 + 1, NO);
        edge("t(Y, Y)", 1 + (1 + 2) + (1 + 2), NO);
        edge("t(Y, a)", 1 + (1 + 2) + (1 + 1) + 5 + 1, YES);
        edge("m(3)", 1 + 1 + 1 + (1 + 3 + 1), YES);
        edge("m(4)", 1 + 3, NO);
        edge("b(9223372036854775807)", 1 + 1 + 3 + 1, YES);
        edge("b(9223372036854775806)", 1 + 1, NO);
    }

    private static void unification() {
        program = "";
        edge("X = Y", 1 + 1, YES);
        edge("X = X", 1 + 1, YES);
        edge("X = a", 1 + 1 + 1, YES);
        edge("a = X", 1 + 1 + 1, YES);
        edge("X = f(a, g(b))", 1 + 1 + 4, YES);
        edge("X = f(a, X, b)", 1 + 1 + 3, NO);
        edge("X = f(a, b, X)", 1 + 1 + 4, NO);
        edge("f(a, b) = f(a, b)", 1 + 3, YES);
        edge("f(a, b) = f(a, c)", 1 + 3, NO);
        edge("f(a, b) = f(c, b)", 1 + 2, NO);
        edge("f(a, b) = g(a, b)", 1 + 1, NO);
        edge("f(X, X) = f(a, Y)", 1 + 1 + 2 + 2, YES);
        edge("f(X, X) = f(g(Y), Y)", 1 + 1 + (1 + 2) + (1 + 2), NO);
        edge("X \\= a", 1 + 2, NO);
        edge("f(a) \\= f(b)", 1 + 2, YES);
    }

    private static void comparing() {
        edge("f(a, b) == f(a, b)", 1 + 3, YES);
        edge("f(a, b) == f(b, b)", 1 + 2, NO);
        edge("X == X", 1 + 1, YES);
        edge("f(a, X) \\== f(a, Y)", 1 + 3, YES);
        edge("f(a, b) @< f(b, a)", 1 + 2, YES);
        edge("g(a) @> f(z)", 1 + 1, YES);
        edge("1 @=< a", 1 + 1, YES);
        edge("f(a) @>= g(a)", 1 + 1, NO);
        edge("compare(O, f(a), f(b))", 1 + 2 + 2, YES);
        edge("compare(<, f(a), f(b))", 1 + 2 + 1, YES);
        edge("compare(>, f(a), f(b))", 1 + 2 + 1, NO);
    }

    private static void copies() {
        edge("copy_term(f(X, g(a)), C)", 1 + 4 + (1 + 4), YES);
        edge("term_variables(f(X, Y), L)", 1 + 3 + (1 + 5), YES);
        edge("term_variables(a, L)", 1 + 1 + 2, YES);
        edge("ground(f(a, g(b)))", 1 + 4, YES);
    }

    /** A ball is copied to be kept, and back for each catch that it comes to. */
    private static void balls() {
        edge("throw(a)", 1 + 1, BALL);
        edge("throw(f(X, g(b)))", 1 + 4, BALL);
        edge("throw(X)", 1 + 3, BALL);
        edge("catch(true, _, true)", 1 + 1, YES);
        edge("catch(throw(f(a)), f(X), true)", 1 + 1 + 2 + 2 + (1 + 2) + 1, YES);
        edge("catch(throw(a), b, true)", 1 + 1 + 1 + 1 + 1, BALL);
        edge("catch(catch(throw(a), b, true), a, true)", 1 + 1 + 1 + 1 + (1 + 1) + (1 + 1) + 1, YES);
        edge("catch(catch(throw(f(a)), b, true), c, true)", 1 + 1 + 1 + 2 + (2 + 1) + (2 + 1), BALL);
        edge("catch(X, _, true)", 1 + 3 + 3 + (1 + 3) + 1, YES);
        edge("catch(throw(a), _, (true, true))", 1 + 1 + 1 + 1 + 2 + 3 + 3, YES);
    }

    private static void collected() {
        program = "e(1, a). e(2, a).";
        int run = 1 + 2 * (4 + 4 + 1);
        edge("findall(X, fail, L)", 1 + 1 + 2, YES);
        edge("findall(X, true, L)", 1 + 1 + 1 + 1 + (1 + 3), YES);
        edge("findall(f(a), (true ; true), L)", 1 + 3 + 1 + 1 + 2 + 1 + 2 + 4 + (1 + 7), YES);
        edge("findall(X - Y, e(X, Y), L)", 1 + run + 6 + 6 + (1 + 9), YES);
        edge("bagof(X, X = 1, L)", 1 + (3 + 1) + 3 + 1 + 1 + (1 + 3), YES);
        edge("bagof(X, fail, L)", 1 + (1 + 1) + 1, NO);
        edge("bagof(X, (true, X = 1), L)", 1 + 3 + (5 + 1) + (1 + 1 + 3) + 1 + 1 + (1 + 3), YES);
        edge("bagof(X, Y ^ e(X, Y), L)", 1 + (3 + 1 + 1) + run + 2 + 2 + (1 + 5), YES);
        edge("bagof(X, e(X, Y), L)", 1 + (3 + 1) + run + 10 + 10 + (2 + 3) + 3 + 3 + 4 + (1 + 5), YES);
        edge("setof(X, Y ^ e(X, Y), L)", 1 + (3 + 1 + 1) + run + 2 + 2 + (2 + 1 + 1) + (1 + 5), YES);
    }

    private static void clauses() {
        program = "p(1). p(2). q(X) :- a, X.";
        edge("assertz(r(1))", 1 + 3, YES);
        edge("asserta((r(X) :- X))", 1 + 4, YES);
        edge("assertz((r :- a, b))", 1 + 3 + 4, YES);
        edge("assertz((r :- a, X))", 1 + 3 + 5, YES);
        edge("assertz((r :- f(a, b)))", 1 + 4, YES);
        edge("assertz((r :- a, 1))", 1 + 3 + 7, BALL);
        edge("clause(p(X), B)", 1 + (1 + 3 + 3 + 2), YES);
        edge("clause(p(2), B)", 1 + (1 + 3 + 2) + (1 + 3 + 2 + 2), YES);
        edge("clause(q(z), B)", 1 + 1 + 6 + (1 + 2) + (1 + 4), YES);
        edge("retract(p(1))", 1 + (1 + 3 + 2 + 1), YES);
        edge("retract(p(2))", 1 + (1 + 3 + 2) + (1 + 3 + 2 + 1), YES);
        edge("retract((p(1) :- fail))", 1 + (1 + 3 + 2 + 1) + (1 + 3 + 2), NO);
        edge("retractall(p(_))", 1 + 2 + 2, YES);
        edge("retractall(p(2))", 1 + 1 + 1, YES);
        edge("retractall(new(_))", 1, YES);
        edge("current_predicate(q/A)", 1 + (1 + 2) + (1 + 1 + 1 + 2), YES);
        edge("current_predicate(N/A)", 1 + (1 + 1 + 2 + 2), YES);
        edge("current_predicate(P)", 1 + (1 + 1 + 3), YES);
    }

    private static void values() {
        program = ":- nb_setval(k, f(a)).";
        edge("nb_setval(l, f(X, b))", 1 + 3, YES);
        edge("nb_getval(k, V)", 1 + 2 + (1 + 2), YES);
        edge("nb_getval(k, f(b))", 1 + 2 + 2, NO);
        edge("b_setval(k, f(a, b, c))", 1, YES);
        edge("nb_getval(none, V)", 1 + 5, BALL);
    }

    private static void expressions() {
        program = "";
        edge("X is 5", 1 + 1 + 2, YES);
        edge("X is 1 + 2 * 3", 1 + 5 + 2, YES);
        edge("6 is 1 + 5", 1 + 3 + 1, YES);
        edge("1 + 1 =:= 2", 1 + 3 + 1, YES);
        edge("1 < 2 - 1", 1 + 1 + 3, NO);
        edge("abs(1) >= msb(4)", 1 + 2 + 2, NO);
        edge("tab(1 + 2)", 1 + 3 + 3, YES);
        edge("X is 1 // 0", 1 + 3 + 4, BALL);
    }

    private static void terms() {
        edge("functor(f(a), N, A)", 1 + 2 + 2, YES);
        edge("functor(T, f, 2)", 1 + 2 + (1 + 3), YES);
        edge("functor(T, f, 0)", 1 + (1 + 1), YES);
        edge("arg(2, f(a, b), A)", 1 + 2, YES);
        edge("arg(3, f(a, b), A)", 1, NO);
        edge("f(a, b) =.. L", 1 + 2 + (1 + 7), YES);
        edge("a =.. L", 1 + (1 + 3), YES);
        edge("T =.. [f, a, b]", 1 + 2 + (1 + 3), YES);
        edge("T =.. [f]", 1 + (1 + 1), YES);
        edge("var(X)", 1, YES);
        edge("atom(f(a))", 1, NO);
    }

    private static void lists() {
        edge("sort([b, a], L)", 1 + 2 + 1 + 1 + (1 + 5), YES);
        edge("sort([a, a], L)", 1 + 2 + 1 + 1 + (1 + 3), YES);
        edge("sort([], L)", 1 + 2, YES);
        edge("msort([b, a], L)", 1 + 2 + 1 + (1 + 5), YES);
        edge("msort([c, b, a], L)", 1 + 3 + 1 + 2 + (1 + 7), YES);
        edge("keysort([2 - a, 1 - b], L)", 1 + 2 + 1 + (1 + 9), YES);
        edge("is_list([a, b])", 1 + 2, YES);
        edge("is_list([a, b|T])", 1 + 2, NO);
        edge("is_list([a, b|c])", 1 + 2, NO);
        edge("is_list(a)", 1, NO);
        edge("length([a, b], N)", 1 + 2 + 2, YES);
        edge("length([a, b], 2)", 1 + 2 + 1, YES);
        edge("length(L, 2)", 1 + 2 + (1 + 5), YES);
        edge("length([a|T], 3)", 1 + 1 + 2 + (1 + 5), YES);
        edge("length([a, b|T], 1)", 1 + 2, NO);
        edge("length(L, N)", 1 + (1 + 2 + 2), YES);
        edge("length([a|T], N)", 1 + 1 + (1 + 2 + 2), YES);
        edge("length([a, b|c], N)", 1 + 2 + 9, BALL);
    }

    private static void texts() {
        edge("write(abc)", 1 + 3, YES);
        edge("writeq('A')", 1 + 3, YES);
        edge("write_canonical(1 + 2)", 1 + 6, YES);
        edge("nl", 1 + 1, YES);
        edge("put_char(a)", 1 + 1, YES);
        edge("atom_codes(abc, L)", 1 + 3 + (1 + 7), YES);
        edge("atom_codes(A, \"ab\")", 1 + 2 + 2, YES);
        edge("atom_chars(A, [a, b])", 1 + 2 + 2, YES);
        edge("atom_chars(12, L)", 1 + 2 + (1 + 5), YES);
        edge("number_codes(N, \"12\")", 1 + 2 + 2, YES);
        edge("number_codes(N, \"1x\")", 1 + 2 + 4, BALL);
        edge("number_codes(12, L)", 1 + 2 + (1 + 5), YES);
        edge("atom_concat(a, bc, C)", 1 + 3 + 2, YES);
        edge("upcase_atom(abc, U)", 1 + 3 + 2, YES);
        edge("atom_number(A, 12)", 1 + 2 + 2, YES);
        edge("atom_number('12', N)", 1 + 2, YES);
        edge("term_to_atom(f(a), A)", 1 + 4 + 2, YES);
        edge("term_to_atom(T, 'f(a)')", 1 + 4 + (1 + 2), YES);
        edge("term_to_atom(T, 'f(')", 1 + 2 + 4, BALL);
        edge("atom_length(abc, N)", 1 + 2, YES);
        edge("char_code(C, 97)", 1 + 2, YES);
    }

    /** For each solution that is tried. */
    private static void solutions() {
        edge("between(1, 3, X)", 1 + (1 + 2), YES);
        edge("between(1, 3, 2)", 1 + 1, YES);
        edge("between(1, 3, 9)", 1 + 1, NO);
        edge("between(3, 1, X)", 1, NO);
        edge("call((between(1, 3, X), X >= 3))", 1 + 3 + 1 + 1 + 3 * (1 + 2) + 3 * (1 + 2), YES);
        edge("atom_concat(X, Y, ab)", 1 + (1 + 2 + 2 + 2), YES);
        edge("atom_concat(a, Y, ab)", 1 + (1 + 2 + 1) + (1 + 2 + 1 + 2), YES);
        edge("atom_concat(X, c, ab)", 1 + 3 * (1 + 2 + 2 + 1), NO);
        edge("sub_atom(ab, B, L, R, S)", 1 + (1 + 0 + 2 + 2 + 2 + 2), YES);
        edge("sub_atom(ab, B, L, 0, S)", 1 + (1 + 0 + 5) + (1 + 1 + 5) + (1 + 2 + 5 + 2), YES);
        edge("current_op(P, T, N)", 1 + (1 + 2 + 2 + 2), YES);
        edge("current_op(P, T, -->)", 1 + (1 + 2 + 2 + 1) + (1 + 2 + 2 + 1), YES);
    }

    private static void phrase() {
        program = "p --> [a]. q(X) --> [X].";
        int called = 1 + 2 + 8 + (1 + 3);
        edge("phrase([], [])", 1 + 1 + (1 + 1), YES);
        edge("phrase([a], [a])", 1 + (1 + 1) + (1 + 3), YES);
        edge("phrase(p, [a])", 1 + (1 + 2) + called, YES);
        edge("phrase(q(a), [a])", 1 + (1 + 3) + (1 + 3 + 9 + (1 + 3)), YES);
        edge("phrase({}, [])", 1 + 1 + (1 + 1), YES);
        edge("phrase(call(=, X), a)", 1 + (1 + 4) + 1 + 3 + 8, BALL);
        edge("phrase(([a], [b]), L)", 1 + 5 + 1 + (1 + 4) + (1 + 4), YES);
        edge("phrase((p ; []), [])", 1 + (1 + 3 + 1) + 1 + (1 + 2 + 8 + (1 + 1)) + (1 + 1), YES);
        edge("phrase(({fail} -> [] ; []), [])", 1 + 5 + 1 + (1 + 1) + (1 + 1), YES);
        edge("phrase(\\+ {fail}, [])", 1 + 2 + 1 + (1 + 3 + 1 + 1) + (1 + 1), YES);
        edge("phrase({true}, [])", 1 + 1 + 1 + 1 + (1 + 1), YES);
        edge("phrase({true, true}, [])", 1 + 1 + 1 + 3 + (1 + 1), YES);
        edge("phrase({1}, [])", 1 + 1 + 1 + 5, BALL);
        edge("phrase({X}, [])", 1 + 1 + 1 + 3, BALL);
    }

    /** What WAITS is looked at behind each FIXED predicate and each clause. */
    private static void waiting() {
        program = "n.";
        edge("freeze(X, true)", 1, YES);
        edge("freeze(a, true)", 1 + 1 + 1, YES);
        edge("dif(a, b)", 1 + 1, YES);
        edge("dif(a, a)", 1 + 1, NO);
        edge("dif(X, a)", 1 + (1 + 1), YES);
        edge("dif(f(X, a), f(Y, a))", 1 + 3, YES);
        edge("call((dif(X, a), n))", 1 + 3 + 1 + (1 + 2) + (1 + 2 + 2 + 1), YES);
        edge("call((dif(X, a), nl))", 1 + 3 + 1 + (1 + 2) + (1 + 1 + 2), YES);
        edge("call((dif(X, a), X = b))", 1 + 3 + 1 + (1 + 2) + (1 + 2 + 1), YES);
        edge("call((freeze(X, n), X = b))", 1 + 3 + 1 + 1 + (1 + 2) + (1 + 4), YES);
    }

    private static void tables() {
        program = ":- table t/1. t(1). t(2). :- table z/0. z.";
        int taken = 2 + 3 + 1;
        int first = 2 + (taken + 2) + (taken + 2 + 2);
        int second = 2 + (taken + 2) + (taken + 2 + 2);
        edge("t(X)", 1 + 2 + first + second + (1 + 2 + 3), YES);
        edge("z", 1 + 1 + (1 + 2 + 1 + 1) + (1 + 2 + 1 + 1) + (1 + 1 + 1), YES);
        program = ":- table t/1. t(1). t(2). :- t(X).";
        edge("t(X)", 1 + 2 + (1 + 2 + 3), YES);
        edge("call((t(X), X > 1))", 1 + 3 + 1 + 1 + 2 + 2 * (1 + 2 + 3) + 2 * (1 + 2), YES);
        edge("t(3)", 1 + 2 + 2 + (2 + 1 + 1), NO);
        edge("abolish_all_tables", 1, YES);
    }

    /** Elements, arguments and parts are counted behind what is thrown. */
    private static void thrownFirst() {
        program = "";
        edge("sort([a, b|_], L)", 1 + 3, BALL);
        edge("msort([a, b|c], L)", 1 + 9, BALL);
        edge("keysort([1 - a, b], L)", 1 + 5, BALL);
        edge("T =.. [f(a), b]", 1 + 6, BALL);
        edge("T =.. [1, b]", 1 + 5, BALL);
        edge("functor(T, 1, 2)", 1 + 5, BALL);
        edge("functor(T, f, 256)", 1 + 4, BALL);
        edge("phrase(([a], 1), L)", 1 + 5, BALL);
        edge("phrase(([a], [b|_]), L)", 1 + 3, BALL);
    }

    private static House over(String goal, int work, int more, int answer) {
        House h = asked(goal, work, more);
        House.same(goal, h.x.next(), more == 0 ? answer : SPENT);
        return h;
    }

    /** What passes LIMIT, wherever it does, is not done; what ends with it is. */
    private static void notDone() {
        program = "";
        for (int more = 0; more <= 4; more++) {
            boolean done = more == 0;
            House.same("assertz", over("assertz(r(1))", 4, more, YES).x.count(3), done ? 1 : 0);
            House.same("asserta", over("asserta(r(1))", 4, more, YES).x.count(3), done ? 1 : 0);
            House h = over("write(abc)", 4, more, YES);
            House.same("write", h.x.count(2), pad + (done ? 3 : 0));
            h = over("writeq('B')", 4, more, YES);
            House.same("writeq", h.x.count(2), pad + (done ? 3 : 0));
        }
        for (int more = 0; more <= 3; more++) {
            boolean done = more == 0;
            House.same("throw", over("throw(f(a))", 3, more, BALL).ball(), done ? "f(a)" : "");
            House h = over("nb_setval(k, f(a))", 3, more, YES);
            h.isFirst("nb_getval(k, V)", done ? "V = f(a)" : "ball error(existence_error(variable,k),_1)");
        }
        for (int more = 0; more <= 1; more++) {
            boolean done = more == 0;
            House.same("dynamic", over("dynamic(d/1)", 1, more, YES).x.count(4), done ? 1 : 0);
            House.same("op", over("op(200, xfy, &)", 1, more, YES).x.count(7), done ? 45 : 44);
        }
        for (int more = 0; more <= 2; more++) {
            House.same("nl", over("nl", 2, more, YES).x.count(2), pad + (more == 0 ? 1 : 0));
            House.same("put_char", over("put_char(a)", 2, more, YES).x.count(2), pad + (more == 0 ? 1 : 0));
        }
        program = "p(1). p(2).";
        for (int more = 0; more <= 8; more++) {
            House.same("retract", over("retract(p(1))", 8, more, YES).x.count(3), more == 0 ? 1 : 2);
        }
        for (int more = 0; more <= 3; more++) {
            House.same("retractall", over("retractall(p(2))", 3, more, YES).x.count(3), more == 0 ? 1 : 2);
        }
        notDoneTables();
        program = "p(1). p(2). p(3).";
        House h = over("retractall(p(_))", 7, 1, YES);
        House.same("what came before LIMIT is done", h.x.count(3), 1);
    }

    private static void notDoneTables() {
        program = ":- table t/1. t(1). :- t(X).";
        House.same("abolish_all_tables", over("abolish_all_tables", 1, 0, YES).x.count(8), 0);
        House.same("abolish_all_tables", over("abolish_all_tables", 1, 1, YES).x.count(8), 1);
        program = ":- table t/1. t(1).";
        int complete = 1 + 2 + (2 + 6 + 2) + (2 + 6 + 2);
        for (int more = 0; more <= complete + 6; more++) {
            House.same("a TABLE", over("t(X)", complete + 6, more, YES).x.count(8), more <= 6 ? 1 : 0);
        }
        for (int more = 0; more <= 6; more++) {
            House.same("one without answers", over("t(a)", 1 + 2 + (2 + 1), more, NO).x.count(8), more == 0 ? 1 : 0);
        }
    }

    private static void outAtTheEdge() {
        House h = new House();
        h.x.limit(100);
        h.query("tab(98)");
        House.same("a text up to LIMIT", h.x.next() + " " + h.x.count(5) + " " + h.x.clear(), "1 100 98");
        h.query("tab(99)");
        House.same("a text beyond it", h.x.next() + " " + h.x.count(5) + " " + h.x.clear(), "3 101 0");
        h.query("write(ab), tab(99)");
        House.same("a text beyond it, behind another", h.x.next() + " " + h.x.count(5) + " " + h.out(), "3 101 ab");
    }

    /** Queries, and :- G, without any goal ahead of them. */
    private static void wholeQueries() {
        House h = new House();
        h.consult("loop :- loop. p(0). p(N) :- N > 0, M is N - 1, p(M).");
        h.x.limit(100);
        h.query("loop");
        House.same("a loop", h.x.next() + " " + h.x.count(5), "3 101");
        h.consult(":- loop.");
        House.same("a loop of :- G", h.x.count(11) + " " + h.x.count(5), "1 101");
        h.query("length(L, 30)");
        House.same("LIMIT", h.x.next() + " " + h.x.count(5), "1 " + (1 + 30 + 1 + 61));
        h.query("length(L, 33)");
        House.same("beyond LIMIT", h.x.next() + " " + h.x.count(5), "3 101");
        h.x.limit(30000);
        h.query("between(1, 9999, X), fail");
        House.same("more than 30000", h.x.next() + " " + h.x.count(5), "3 30001");
        h.query("between(1, 7498, X), fail");
        House.same("WORK of 30000 less 3", h.x.next() + " " + h.x.count(5), "0 " + (5 + 4 * 7498));
        h.query("tab(29998)");
        House.same("WORK of 30000", h.x.next() + " " + h.x.count(5) + " " + h.x.clear(), "1 30000 29998");
        h.query("tab(29999)");
        House.same("WORK beyond 30000", h.x.next() + " " + h.x.count(5) + " " + h.x.clear(), "3 30001 0");
    }
}
