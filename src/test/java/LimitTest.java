import java.util.Random;

/** Limits that the document names, and long runs of one object. */
public final class LimitTest {
    public static void main(String[] args) {
        clauses();
        predicates();
        operators();
        values();
        tables();
        spent();
        deep();
        longRun();
        manyAtoms();
        junk();
        House.finish();
    }

    private static void clauses() {
        House h = new House();
        int each = 3 + 1 + (1 + 3) + 1;
        h.isAll("between(1, 2000, X), assertz(c(X)), fail", "ball error(resource_error(clauses),_1)");
        House.same("1000 clauses", h.x.count(3), 1000);
        House.same("WORK of 1000 and one more", h.x.count(5), 5 + 1 + 1 + 1000 * each + (3 + 1 + 1 + 3) + 4);
        h.isAll("assertz(d(1))", "ball error(resource_error(clauses),_1)");
        House.same("a predicate of none is not known", h.x.count(4), 1);
        h.isAll("retract(c(7)), assertz(d(1)), d(X)", "X = 1; no");
        House.same("1000 clauses again", h.x.count(3), 1000);
        House.same("consult counts it", h.consult("e(1)."), 0);
        House.same("as an ERROR", h.x.count(10), 1);
        House room = new House();
        room.x.limit(30000);
        room.isAll("functor(T, f, 255), between(1, 100, X), assertz(T), fail", "ball error(resource_error(clauses),_1)");
        House.same("12000 ROOM of 257 each", room.x.count(3), 46);
        // 46 * 257 + 28 leave 150 of 12000.
        room.isAll("assertz(g(a, b, c, d, e, f, g, h, i, j, k, l, m, n, o, p, q, r, s, t, u, v, w, x, y, z)), "
                + "functor(T, g, 149), assertz(T)", "ball error(resource_error(clauses),_1)");
        room.isFirst("functor(T, g, 148), arg(1, T, eight_by), assertz(T)", "ball error(resource_error(clauses),_1)");
        room.isTrue("functor(T, g, 148), arg(1, T, seven_b), assertz(T)");
        House.same("full to the last part", room.x.count(3), 48);
    }

    private static void predicates() {
        House h = new House();
        h.isAll("between(1, 400, X), atom_concat(p, X, N), T =.. [N, a], assertz(T), fail",
                "ball error(resource_error(predicates),_1)");
        House.same("300 predicates", h.x.count(4) + " " + h.x.count(3), "300 300");
        h.isAll("dynamic(q/1)", "ball error(resource_error(predicates),_1)");
        h.isAll("retractall(q(_))", "ball error(resource_error(predicates),_1)");
        h.isAll("dynamic(p7/1), retractall(p7(_)), p7(X)", "no");
        House.same("consult", h.consult("q(1). p8(b)."), 1);
    }

    private static void operators() {
        House h = new House();
        h.isAll("between(1, 200, X), atom_concat(o, X, N), op(200, xfy, N), fail", "ball error(resource_error(operators),_1)");
        House.same("150 operators", h.x.count(7), 150);
        h.isAll("op(300, xfx, o7), op(200, fy, '|')", "ball error(permission_error(create,operator,'|'),_1)");
        h.isAll("op(0, xfx, o7), op(200, fy, new)", "yes; no");
        House.same("150 operators again", h.x.count(7), 150);
    }

    private static void values() {
        House h = new House();
        h.isAll("between(1, 200, X), atom_concat(k, X, N), nb_setval(N, X), fail", "ball error(resource_error(values),_1)");
        h.isAll("nb_getval(k100, X)", "X = 100; no");
        h.isAll("nb_getval(k101, X)", "ball error(existence_error(variable,k101),_1)");
        h.isAll("b_setval(other, 1)", "ball error(resource_error(values),_1)");
        h.isAll("b_setval(k1, 5), b_getval(k1, X)", "X = 5; no");
        h.x.limit(30000);
        h.isAll("length(L, 1999), nb_setval(k1, L)", "ball error(resource_error(values),_1)");
        h.isTrue("length(L, 1949), nb_setval(k1, L)");
        h.isTrue("length(L, 1950), nb_setval(k1, L)");
        h.isAll("length(L, 1951), nb_setval(k1, L)", "ball error(resource_error(values),_1)");
        h.isTrue("nb_getval(k1, L), length(L, N)");
        h.isFirst("nb_setval(k1, small), nb_getval(k1, X)", "X = small");
    }

    private static void tables() {
        House h = new House();
        h.consult(":- table t/1. t(X). :- table u/2. u(N, X) :- between(1, N, X).");
        h.isAll("between(1, 200, X), t(X), fail", "ball error(resource_error(tables),_1)");
        House.same("100 TABLES", h.x.count(8) + " " + h.x.count(9), "100 100");
        h.isAll("t(7)", "yes; no");
        h.isAll("abolish_all_tables, t(200)", "yes; no");
        h.x.limit(30000);
        h.first("abolish_all_tables");
        h.consult(":- table big/1. big(X) :- functor(X, f, 255), fail. big(X) :- member(X, [1, 2, 3]), functor(Y, f, 255), "
                + "X == 3, fail. big(1).");
        h.isAll("big(X)", "X = 1; no");
        h.first("abolish_all_tables");
        // A call and an answer of 252 each: 15 TABLES have 7560, the next has its call, but not its answer.
        for (int i = 1; i <= 16; i++) {
            h.isFirst("functor(T, g, 250), arg(1, T, " + i + "), t(T), T = a",
                    i <= 15 ? "no" : "ball error(resource_error(tables),_1)");
            House.same("8000 ROOM, TABLE " + i, h.x.count(8), Math.min(i, 15));
        }
        h.isAll("t(T)", "T = _1; no");
    }

    /** What passes LIMIT is not done. */
    private static void spent() {
        House h = new House();
        h.x.limit(100);
        h.isAll("length(L, 30), assertz(c(L))", "spent");
        House.same("not added", h.x.count(3), 0);
        h.isAll("length(L, 30), nb_setval(k, L)", "spent");
        h.isAll("nb_getval(k, V)", "ball error(existence_error(variable,k),_1)");
        h.isAll("write(abc), tab(200)", "spent");
        House.same("not written", h.out(), "abc");
        h.consult("loop :- loop.");
        h.isAll("loop", "spent");
        House.same("WORK", h.x.count(5), 101);
        h.isAll("b_setval(k, 1), length(L, 300)", "spent");
        h.isAll("b_getval(k, V)", "ball error(existence_error(variable,k),_1)");
        h.isAll("catch(length(L, 300), _, true)", "spent");
        h.isFirst("findall(X, between(1, 300, X), L)", "spent");
        h.isFirst("true", "yes");
    }

    /** Terms far deeper than any stack of the machine, and such as grow twice with each step. */
    private static void deep() {
        House h = new House();
        h.x.limit(30000);
        h.consult("s(0, z). s(N, s(T)) :- N > 0, M is N - 1, s(M, T). l(0, z). l(N, T + a) :- N > 0, M is N - 1, l(M, T). "
                + "d(0, z). d(N, f(T, T)) :- N > 0, M is N - 1, d(M, T). c(0, true). c(N, (T, true)) :- N > 0, M is N - 1, c(M, T).");
        h.isTrue("s(300, T), copy_term(T, U), T == U, T = U, assertz(k(T)), findall(T, true, _), ground(T)");
        h.isTrue("l(300, T), term_variables(T, L), write(T), L = []");
        h.isTrue("c(500, T), call(T)");
        h.isFirst("d(60, T), copy_term(T, U)", "spent");
        h.isFirst("d(60, T), T == T", "spent");
        h.isFirst("d(60, T), write(T)", "spent");
        h.isFirst("d(60, T), term_to_atom(T, A)", "spent");
        h.isFirst("d(60, T), assertz(k(T))", "spent");
        h.isFirst("d(60, T), throw(T)", "spent");
        h.isFirst("d(60, T), X is T", "ball error(type_error(evaluable,f / 2),_1)");
        h.consult("e(0, z). e(N, (T, T)) :- N > 0, M is N - 1, e(M, T). a(0, 1). a(N, T + T) :- N > 0, M is N - 1, a(M, T).");
        h.isFirst("e(60, T), call(T)", "spent");
        h.isFirst("e(60, T), phrase(T, L)", "spent");
        h.isFirst("e(60, T), assertz((k :- T))", "spent");
        h.isFirst("a(60, T), X is T", "spent");
        h.isFirst("a(10, T), X is T, T = 1 ; true", "T = _1, X = _1");
        h.query("d(60, T)");
        House.same("an answer of 2^61 parts", h.x.next() + " " + h.x.value(0), "1 32768");
    }

    /** One object for as many calls as it may be used for: what is kept stays right when room is made for new things. */
    private static void longRun() {
        House h = new House();
        h.x.limit(30000);
        h.consult("keep(alpha, 'Beta 1'). keep(gamma, [delta, \"eps\"]). :- op(700, xfx, likes). a likes b. :- table tb/1. "
                + "tb(one). tb(two). n(0). step :- retract(n(N)), M is N + 1, assertz(n(M)). "
                + "go(I) :- between(1, 600, X), Y is X + I * 1000, atom_concat(atom_, Y, A), atom_length(A, 0). "
                + "steps :- between(1, 200, _), step, fail. "
                + "set :- between(1, 100, X), nb_setval(key2, f(X, X, X)), fail.");
        h.first("nb_setval(key1, value(one, Two))");
        h.first("tb(X)");
        for (int i = 0; i < 15; i++) {
            h.work("go(" + i + ")");
            h.work("steps");
            h.work("set");
            h.consult(":- between(1, 20, X), tb(X), fail. :- abolish_all_tables.");
            h.work("tb(X)");
        }
        h.isAll("keep(X, Y)", "X = alpha, Y = 'Beta 1'; X = gamma, Y = [delta,[101,112,115]]; no");
        h.isAll("X likes Y", "X = a, Y = b; no");
        h.isAll("nb_getval(key1, X), nb_getval(key2, Y)", "X = value(one,_1), Y = f(100,100,100); no");
        h.isAll("tb(X)", "X = one; X = two; no");
        h.isAll("n(X)", "X = 3000; no");
        House.same("clauses", h.x.count(3), 10);
        h.x.reset();
        House.same("consult behind reset", h.consult("keep(new)."), 1);
        h.isAll("keep(X)", "X = new; no");
        House.same("it was a long run", h.x.calls > 400, true);
    }

    /** Atoms that only one query needs come and go; a query may be an atom alone. */
    private static void manyAtoms() {
        House h = new House();
        h.consult("stays(here). many(I) :- between(1, 700, X), Y is X + I * 1000, atom_concat(only, Y, A), fail.");
        for (int i = 0; i < 20; i++) {
            h.work("many(" + i + ")");
            h.isFirst("only" + i, "ball error(existence_error(procedure,only" + i + " / 0),_1)");
        }
        h.isAll("stays(X)", "X = here; no");
    }

    /** Whatever stands on the tape, a call ends with an answer. */
    private static void junk() {
        Random random = new Random(7);
        String bytes = "abXY_01(),.[]{}|'\"\\ \n%/*-+=:;!0'x";
        String[] words = {"p(X)", " :- ", ", ", "; ", " -> ", "X", "[a|T]", "f(", ")", "\\+ ", "assertz(", "findall(X, ", "{",
            "}", "--> ", ". ", "catch(", "=", " is ", "1 + X", "retract(", "freeze(X, ", "dif(X, Y)", "op(700, xfx, ", "!"};
        House h = new House();
        for (int i = 0; i < 3000; i++) {
            StringBuilder s = new StringBuilder();
            for (int k = random.nextInt(20); k >= 0; k--) {
                int which = random.nextInt(12);
                s.append(which == 0 ? String.valueOf((char) random.nextInt(256))
                        : which < 5 ? String.valueOf(bytes.charAt(random.nextInt(bytes.length())))
                        : words[random.nextInt(words.length)]);
            }
            if (h.x.calls > House.MOST_CALLS - 30) {
                h = new House();
            }
            h.tape(s.toString());
            int before = h.x.count(0);
            int got = i % 4 == 0 ? h.x.consult() : i % 4 == 1 ? h.x.term(i % 3) : i % 4 == 2 ? h.x.listing() : h.x.query();
            House.same("the tape is read, and the place is on it", h.x.count(0) == 0 && got >= -1 - before - (i % 4 == 2 ? 1 : 0), true);
            if (i % 4 == 3 && got >= 0) {
                int answer = h.x.next();
                House.same("an answer", answer >= 0 && answer <= 3, true);
            }
        }
    }
}
