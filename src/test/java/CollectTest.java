/** findall and its family, goals that WAIT, TABLES. */
public final class CollectTest {
    public static void main(String[] args) {
        collected();
        grouped();
        freeze();
        dif();
        waiting();
        tables();
        rounds();
        tableBalls();
        work();
        tableWork();
        House.finish();
    }

    private static void collected() {
        House h = new House();
        h.consult("p(b). p(a). p(c). p(a).");
        h.isAll("findall(X, p(X), L)", "X = _1, L = [b,a,c,a]; no");
        h.isAll("findall(X, fail, L)", "X = _1, L = []; no");
        h.isAll("findall(X - Y, (X = 1 ; Y = 2), L)", "X = _1, Y = _1, L = [1 - _1,_2 - 2]; no");
        h.isAll("findall(X, p(X), [Y|_])", "X = _1, Y = b; no");
        h.isAll("findall(L, (p(X), findall(X, p(X), L)), M)", "L = _1, X = _1, M = [[b],[a,a],[c],[a,a]]; no");
        h.isAll("bagof(X, p(X), L)", "X = _1, L = [b,a,c,a]; no");
        h.isAll("bagof(X, fail, L)", "no");
        h.isAll("setof(X, p(X), L)", "X = _1, L = [a,b,c]; no");
        h.isAll("findall(X, 3, L)", "ball error(type_error(callable,3),_1)");
        h.isAll("bagof(X, Y ^ 3, L)", "ball error(type_error(callable,3),_1)");
        h.isAll("setof(X, Y ^ Z, L)", "ball error(instantiation_error,_1)");
        h.isAll("bagof(X, (p(X), 3), L)", "ball error(type_error(callable,(p(_1),3)),_2)");
    }

    private static void grouped() {
        House h = new House();
        h.consult("age(peter, 7). age(ann, 11). age(pat, 8). age(tom, 5). age(mike, 11). age(ann, 11).");
        h.isAll("bagof(N, age(N, A), L)", "N = _1, A = 5, L = [tom]; N = _1, A = 7, L = [peter]; N = _1, A = 8, L = [pat]; "
                + "N = _1, A = 11, L = [ann,mike,ann]; no");
        h.isAll("setof(N, age(N, A), L), A > 7", "N = _1, A = 8, L = [pat]; N = _1, A = 11, L = [ann,mike]; no");
        h.isAll("setof(A, N ^ age(N, A), L)", "A = _1, N = _1, L = [5,7,8,11]; no");
        h.isAll("bagof(x, age(N, A), L), L = [_, _]", "N = ann, A = 11, L = [x,x]; no");
        h.isAll("setof(N, age(N, 11), [X|_])", "N = _1, X = ann; no");
        h.isAll("bagof(X, member(X - Y, [1 - A, 2 - B, 3 - A]), L)",
                "X = _1, Y = _1, A = _1, B = _1, L = [1,3]; X = _1, Y = _1, A = _1, B = _1, L = [2]; no");
        h.consult("r(1, f(_)). r(2, g(_)). r(3, f(_)). r(4, f(a)).");
        h.isAll("bagof(X, r(X, Y), L)", "X = _1, Y = f(_1), L = [1,3]; X = _1, Y = f(a), L = [4]; X = _1, Y = g(_1), L = [2]; no");
        h.isAll("setof(X - Z, member(X, [2, 1, 2]), L)", "X = _1, Z = _1, L = [1 - _1,2 - _2,2 - _3]; no");
        h.isAll("bagof(X, Y ^ Z ^ member(X - Y - Z, [1 - 2 - 3, 4 - 5 - 6]), L)", "X = _1, Y = _1, Z = _1, L = [1,4]; no");
    }

    private static void freeze() {
        House h = new House();
        h.isWritten("freeze(X, write(X)), write(a), X = b, write(c)", "abc");
        h.isWritten("freeze(X, write(1)), freeze(Y, write(2)), freeze(X, write(3)), f(X, Y) = f(a, b)", "123");
        h.isWritten("freeze(x, write(now))", "now");
        h.isAll("freeze(X, fail), X = 1", "no");
        h.isAll("freeze(X, X > 1), member(X, [1, 2, 3])", "X = 2; X = 3; no");
        h.isAll("freeze(X, true), Y = X", "X = _1, Y = _1; no");
        h.isWritten("freeze(X, write(a)), freeze(Y, write(b)), X = Y, write(c), X = 1", "cab");
        h.isWritten("(freeze(X, write(a)), X = 1, fail ; X = 2, write(b))", "ab");
        h.isWritten("freeze(X, (write(a), freeze(Y, write(b)), Y = 1)), X = 1, write(c)", "abc");
        h.isAll("freeze(X, Y), X = 1", "ball error(instantiation_error,_1)");
        h.isAll("freeze(X, throw(a(X))), catch(X = 1, a(Y), true)", "X = _1, Y = 1; no");
        h.isAll("freeze(X, true), copy_term(X, Y), Y = 1, freeze(Y, Z = 2)", "X = _1, Y = 1, Z = 2; no");
        h.consult("p(1) :- write(body). p(2).");
        h.isWritten("freeze(X, write(first)), p(X)", "firstbody");
        h.isWritten("freeze(X, (write(x), fail)), p(X)", "xx");
        h.isWritten("freeze(X, write(a)), freeze(1, write(b)), freeze(X, write(c)), X = 1", "bac");
    }

    private static void dif() {
        House h = new House();
        h.isAll("dif(a, b)", "yes; no");
        h.isAll("dif(a, a)", "no");
        h.isAll("dif(X, X)", "no");
        h.isAll("dif(X, a), X = b", "X = b; no");
        h.isAll("dif(X, a), X = a", "no");
        h.isAll("dif(X, Y), X = Y", "no");
        h.isAll("dif(f(X, Y), f(1, 2)), X = 1, Y = 3", "X = 1, Y = 3; no");
        h.isAll("dif(f(X, Y), f(1, 2)), X = 1, Y = 2", "no");
        h.isAll("dif(X, a), member(X, [a, b, c])", "X = b; X = c; no");
        h.isAll("dif(X, f(X))", "X = _1; no");
        h.isAll("dif(X, a), (X = a ; X = b)", "X = b; no");
        h.isAll("dif(X, a), \\+ X = a", "X = _1; no");
        h.isAll("dif(X, a), findall(X, member(X, [a, b]), L)", "X = _1, L = [b]; no");
        h.consult("q(a). q(b).");
        h.isAll("dif(X, a), q(X)", "X = b; no");
    }

    /** None of the goals is called if a dif fails; control does not look. */
    private static void waiting() {
        House h = new House();
        h.isWritten("freeze(X, write(no)), dif(X, 1), X = 1 ; write(end)", "end");
        h.isWritten("dif(X, 1), freeze(X, write(no)), X = 1 ; write(end)", "end");
        h.isWritten("freeze(X, write(w)), catch(throw(1), X, write(r)), write(s)", "rws");
    }

    private static void tables() {
        House h = new House();
        h.consult(":- table path/2. edge(a, b). edge(b, c). edge(c, a). path(X, Y) :- path(X, Z), edge(Z, Y). "
                + "path(X, Y) :- edge(X, Y).");
        h.isAll("path(a, X)", "X = b; X = c; X = a; no");
        House.same("TABLES", h.x.count(8) + " " + h.x.count(9), "1 3");
        h.isAll("path(Y, X), Y = X", "Y = a, X = a; Y = b, X = b; Y = c, X = c; no");
        House.same("TABLES", h.x.count(8) + " " + h.x.count(9), "2 12");
        h.consult("edge(c, d).");
        h.isAll("path(a, d)", "yes; no");
        h.isAll("path(a, X)", "X = b; X = c; X = a; no");
        h.isAll("path(a, X), abolish_all_tables", "X = b; X = c; X = a; no");
        House.same("no TABLES", h.x.count(8) + " " + h.x.count(9), "0 0");
        h.isAll("path(a, X)", "X = b; X = c; X = a; X = d; no");
        h.consult(":- table fib/2. fib(0, 0). fib(1, 1). fib(N, F) :- N > 1, A is N - 1, B is N - 2, fib(A, X), fib(B, Y), "
                + "F is X + Y.");
        h.isAll("fib(20, F)", "F = 6765; no");
        h.consult(":- table s/2. s(X, Y). s(X, X). s(1, 2).");
        h.isAll("s(A, B)", "A = _1, B = _1; A = _1, B = _1; A = 1, B = 2; no");
        h.isAll("freeze(X, X > 1), s(1, X)", "X = _1; X = 2; no");
        h.isAll("table(zz/1), dynamic(zz/1), zz(X)", "no");
    }

    private static void rounds() {
        House h = new House();
        h.consult(":- table u/1, v/1. u(1). u(X) :- v(X). v(2). v(X) :- u(X). v(X) :- u(Y), Y < 5, X is Y + 1.");
        h.isAll("u(X)", "X = 1; X = 2; X = 3; X = 4; X = 5; no");
        House.same("both are COMPLETE", h.x.count(8) + " " + h.x.count(9), "2 10");
        h.isFirst("v(X)", "X = 2");
        h.consult(":- table w/1. w(X) :- findall(Y, w(Y), X).");
        h.isFirst("w(X)", "spent");
    }

    private static void tableBalls() {
        House h = new House();
        h.consult(":- table a/1, b/1. a(X) :- b(X). a(X) :- catch(c(X), _, X = caught). b(1). b(X) :- throw(oops). "
                + ":- table c/1. c(2). c(X) :- throw(inner).");
        h.isAll("a(X)", "ball oops");
        House.same("what is not COMPLETE goes", h.x.count(8) + " " + h.x.count(9), "0 0");
        h.isAll("catch(a(X), E, true)", "X = _1, E = oops; no");
        h.consult(":- table d/1. d(X) :- catch(c(X), _, X = caught). d(X) :- c(X).");
        h.isAll("d(X)", "X = caught; X = 2; no");
        House.same("its answers stay", h.x.count(8) + " " + h.x.count(9), "2 3");
        h.consult(":- table l/1. l(X) :- l(Y), X is Y + 1. l(0).");
        h.isFirst("l(X)", "spent");
        House.same("SPENT: what is not COMPLETE goes", h.x.count(8), 2);
    }

    /** Each number is counted by hand from the document. */
    private static void work() {
        House h = new House();
        h.consult("p(1, a). p(2, b). p(1, c).");
        int run = 1 + 3 * (4 + 4 + 1);
        h.isWork("findall(X - Y, p(X, Y), L)", 1 + run + 9 + 9 + (1 + 13));
        h.isWork("findall(X, (p(X, Y), Y = b), L)", 1 + 3 + 1 + run + 3 * 2 + 1 + 1 + (1 + 3));
        h.isWork("bagof(X - Y, p(X, Y), L)", 1 + (3 + 3) + run + 9 + 9 + (1 + 13));
        h.isWork("bagof(X, Y ^ p(X, Y), L)", 1 + (3 + 1 + 1) + run + 3 + 3 + (1 + 7));
        h.isWork("bagof(X, (true, fail), L)", 1 + 3 + (3 + 1) + 3);
        h.isWork("setof(X, Y ^ p(X, Y), L)", 1 + (3 + 1 + 1) + run + 3 + 3 + 3 + (1 + 1) + (1 + 1) + (1 + 5));
        int copies = 3 * 5 + 3 * 5;
        int sorted = 3 + 2 + 3;
        int group = (3 + 2) + 3 + (1 + 2 + 1) + (1 + 5);
        h.isWork("bagof(Y, p(X, Y), L)", 1 + (3 + 1) + run + copies + sorted + group);
        h.query("bagof(Y, p(X, Y), L)");
        h.x.next();
        h.x.next();
        House.same("WORK of the second group", h.x.count(5), 89 + (1 + 2 + 1) + (1 + 3));
        h.isWork("freeze(X, true), X = 1", 3 + 1 + 1 + 1 + 2 + 1 + 1);
        h.isWork("freeze(1, true)", 1 + 1 + 1);
        h.isWork("dif(X, a)", 1 + 2);
        h.isWork("dif(X, a), true, var(X)", 5 + 1 + (1 + 2) + 1 + 1 + (1 + 2));
        h.isWork("dif(X, a), X = b, var(b)", 5 + 1 + (1 + 2) + 1 + (1 + 2 + 1) + 1);
        h.isWork("dif(f(X), f(X))", 1 + 2);
    }

    private static void tableWork() {
        House h = new House();
        h.consult(":- table e/1. e(a).");
        int bound = 2 + 3 + 1;
        h.isWork("e(X)", 1 + 2 + (2 + bound + 2) + (2 + bound + 2) + (1 + 2 + 3));
        h.isWork("e(X)", 1 + 2 + (1 + 2 + 3));
        h.isWork("e(b)", 1 + 2 + 2 + (2 + 1));
        int same = 1 + 3 + 1;
        h.isWork("e(a)", 1 + (2 + 2) + 2 + (2 + same + 2) + (2 + same + 2) + (1 + 2 + 2));
        h.isWork("dif(X, b), e(X)", 3 + 1 + (1 + 2) + 1 + 2 + (1 + 2 + 3) + 1);
    }
}
