/** RUNNING, control, ERRORS, arithmetic, terms, and their WORK. */
public final class RunTest {
    private static final House H = new House();

    public static void main(String[] args) {
        H.consult("p(1). p(2). p(3). q(X) :- p(X), X > 1. loop :- loop. c(X) :- p(X), !. c(9). d(X) :- (p(X), X > 1 -> true ; X = n).");
        control();
        cuts();
        balls();
        errors();
        unification();
        order();
        terms();
        arithmetic();
        lists();
        defined();
        work();
        House.finish();
    }

    private static void control() {
        H.isAll("true", "yes; no");
        H.isAll("fail", "no");
        H.isAll("p(X), p(Y), X > Y", "X = 2, Y = 1; X = 3, Y = 1; X = 3, Y = 2; no");
        H.isAll("X = 1 ; X = 2 ; X = 3", "X = 1; X = 2; X = 3; no");
        H.isAll("(p(X) -> Y = a ; Y = b)", "X = 1, Y = a; no");
        H.isAll("(fail -> Y = a ; Y = b)", "Y = b; no");
        H.isAll("(p(X) -> Y = a)", "X = 1, Y = a; no");
        H.isAll("(fail -> true)", "no");
        H.isAll("(p(X) *-> Y = a ; Y = b)", "X = 1, Y = a; X = 2, Y = a; X = 3, Y = a; no");
        H.isAll("(fail *-> Y = a ; Y = b)", "Y = b; no");
        H.isAll("(p(X) *-> X > 1)", "X = 2; X = 3; no");
        H.isAll("\\+ p(4)", "yes; no");
        H.isAll("\\+ p(X)", "no");
        H.isAll("\\+ \\+ X = 1", "X = _1; no");
        H.isAll("call(p, X), X > 2", "X = 3; no");
        H.isAll("call(=(X), 1)", "X = 1; no");
        H.isAll("call(foldl, [X, A, B] ^ true, [], 0, S)", "X = _1, A = _1, B = _1, S = 0; no");
        H.isAll("call(call, call, =, X, 1)", "X = 1; no");
        H.isAll("once(p(X))", "X = 1; no");
        H.isAll("ignore((p(X), X > 1))", "X = 2; no");
        H.isAll("ignore(fail)", "yes; no");
        H.isAll("forall(p(X), X > 0)", "X = _1; no");
        H.isAll("forall(p(X), X > 1)", "no");
        H.isAll("X = (p(Y), Y > 2), X", "X = (p(3),3 > 2), Y = 3; no".replace("X = (p(3),3 > 2)", "X = p(3),3 > 2"));
        H.isAll("q(X)", "X = 2; X = 3; no");
        H.isAll("d(X)", "X = 2; no");
        H.isFirst("loop", "spent");
    }

    private static void cuts() {
        H.isAll("p(X), !", "X = 1; no");
        H.isAll("c(X)", "X = 1; no");
        H.isAll("call((p(X), !)) ; X = z", "X = 1; X = z; no");
        H.isAll("(p(X), ! ; X = z)", "X = 1; no");
        H.isAll("((p(X), ! -> true ; fail) ; X = z)", "X = 1; X = z; no");
        H.isAll("p(X), (X > 1, ! ; fail)", "X = 2; no");
        H.isAll("p(X), \\+ (!, fail)", "X = 1; X = 2; X = 3; no");
        H.isAll("X = !, p(Y), X", "X = !, Y = 1; X = !, Y = 2; X = !, Y = 3; no");
        H.isAll("findall(X, (p(X), !), L)", "X = _1, L = [1]; no");
        H.isAll("catch((p(X), !), _, true) ; X = z", "X = 1; X = z; no");
        H.isAll("forall((p(X), !), X = 1)", "X = _1; no");
        H.isAll("(true ; X = z), once(p(X)), !", "X = 1; no");
        H.isAll("(p(X) *-> ! ; true)", "X = 1; no");
        H.isAll("call(!) ; X = z", "X = _1; X = z; no");
    }

    private static void balls() {
        H.isAll("throw(a)", "ball a");
        H.isAll("throw(f(X, Y, X))", "ball f(_1,_2,_1)");
        H.isAll("throw(X)", "ball error(instantiation_error,_1)");
        H.isAll("catch(throw(f(X)), f(Y), Y = 1)", "X = _1, Y = 1; no");
        H.isAll("catch(throw(a), b, true)", "ball a");
        H.isAll("catch(catch(throw(a), b, true), a, X = 1)", "X = 1; no");
        H.isAll("catch(catch(throw(a), a, throw(b)), b, X = 1)", "X = 1; no");
        H.isAll("catch((X = 1, throw(a)), a, true)", "X = _1; no");
        H.isAll("catch(p(X), _, true), X > 1, throw(X)", "ball 2");
        H.isAll("catch((p(X), X > 1, throw(t(X))), t(Y), true)", "X = _1, Y = 2; no");
        H.isAll("catch(p(X), _, true)", "X = 1; X = 2; X = 3; no");
        H.isAll("catch(throw(a), X, (X = a ; X = b))", "X = a; no");
        H.isAll("findall(X, catch((p(X), (X > 2 -> throw(e) ; true)), e, X = c), L)", "X = _1, L = [1,2,c]; no");
        H.isAll("catch(findall(X, (p(X), X > 1, throw(e)), L), e, findall(Y, p(Y), L))",
                "X = _1, L = [1,2,3], Y = _1; no");
        H.isAll("catch(\\+ throw(a), a, true)", "yes; no");
        H.isAll("catch(3, error(E, _), true)", "E = type_error(callable,3); no");
        H.isAll("catch(true, _, 3)", "yes; no");
        H.isAll("catch(throw(a), _, 3)", "ball error(type_error(callable,3),_1)");
    }

    private static void errors() {
        H.isAll("X", "ball error(instantiation_error,_1)");
        H.isAll("3", "ball error(type_error(callable,3),_1)");
        H.isAll("foo(1, 2)", "ball error(existence_error(procedure,foo / 2),_1)");
        H.isAll("call((fail, 1))", "ball error(type_error(callable,(fail,1)),_1)");
        H.isAll("call((true ; 1))", "ball error(type_error(callable,(true ; 1)),_1)");
        H.isAll("call((true -> 1))", "ball error(type_error(callable,(true -> 1)),_1)");
        H.isAll("call((true, \\+ 1))", "ball error(type_error(callable,1),_1)");
        H.isAll("write(a), (true ; 2)", "ball error(type_error(callable,(write(a),(true ; 2))),_1)");
        H.isAll("call(1, a)", "ball error(type_error(callable,1),_1)");
        H.isAll("call(X, a)", "ball error(instantiation_error,_1)");
        H.isAll("once(3)", "ball error(type_error(callable,(3 -> true)),_1)");
        H.isAll("ignore(3)", "ball error(type_error(callable,(3 -> true ; true)),_1)");
        H.isAll("forall(3, true)", "ball error(type_error(callable,(3,\\+ true)),_1)");
        H.isAll("once(X)", "ball error(instantiation_error,_1)");
        H.isAll("\\+ X", "ball error(instantiation_error,_1)");
        H.isAll("findall(X, Y, L)", "ball error(instantiation_error,_1)");
        H.isAll("functor(T, f, 255), T =.. L, call(T, a)", "ball error(representation_error(max_arity),_1)");
    }

    private static void unification() {
        H.isAll("X = Y, Y = 1", "X = 1, Y = 1; no");
        H.isAll("X = f(X)", "no");
        H.isAll("f(X, g(X)) = f(Y, Y)", "no");
        H.isAll("f(X, b) = f(a, Y)", "X = a, Y = b; no");
        H.isAll("f(a) = f(a, b)", "no");
        H.isAll("1 = a", "no");
        H.isAll("9223372036854775807 = 9223372036854775807", "yes; no");
        H.isAll("X \\= a", "no");
        H.isAll("f(X, a) \\= f(b, c)", "X = _1; no");
    }

    private static void order() {
        H.isAll("X @< Y, X @< 1, 1 @< a, a @< f(a), g(a) @< f(a, b), f(a) @< g(a), f(a) @< f(b)",
                "X = _1, Y = _1; no");
        H.isAll("f(X, Y), X @< Y ; true", "ball error(existence_error(procedure,f / 2),_1)");
        H.isAll("X == X, X \\== Y, a @=< a, b @>= a, b @> a", "X = _1, Y = _1; no");
        H.isAll("ab @< abc, 'Z' @< a, -3 @< 2, 9223372036854775807 @> 1", "yes; no");
        H.isAll("compare(A, 1, 2), compare(B, f(b), f(a)), compare(C, x, x)", "A = <, B = >, C = =; no");
        H.isAll("compare(<, 2, 1)", "no");
        H.isAll("compare(1, a, b)", "ball error(type_error(atom,1),_1)");
        H.isAll("compare(a, a, b)", "ball error(domain_error(order,a),_1)");
        H.isAll("copy_term(f(Y, X), f(A, B)), A @< B, Y = X", "Y = _1, X = _1, A = _1, B = _1; no");
        H.isAll("length(L, 2), L = [A, B], A @< B", "L = [_1,_2], A = _1, B = _1; no");
    }

    private static void terms() {
        H.isAll("functor(f(a, b), N, A)", "N = f, A = 2; no");
        H.isAll("functor(3, N, A)", "N = 3, A = 0; no");
        H.isAll("functor([a], N, A)", "N = '.', A = 2; no");
        H.isAll("functor(T, f, 2)", "T = f(_1,_2); no");
        H.isAll("functor(T, 3, 0)", "T = 3; no");
        H.isAll("functor(T, N, 2)", "ball error(instantiation_error,_1)");
        H.isAll("functor(T, f, A)", "ball error(instantiation_error,_1)");
        H.isAll("functor(T, f, a)", "ball error(type_error(integer,a),_1)");
        H.isAll("functor(T, f, -1)", "ball error(domain_error(not_less_than_zero,-1),_1)");
        H.isAll("functor(T, f, 256)", "ball error(representation_error(max_arity),_1)");
        H.isAll("functor(T, f(a), 0)", "ball error(type_error(atomic,f(a)),_1)");
        H.isAll("functor(T, 3, 1)", "ball error(type_error(atom,3),_1)");
        H.isAll("arg(2, f(a, b), X)", "X = b; no");
        H.isAll("arg(3, f(a, b), X)", "no");
        H.isAll("arg(0, f(a, b), X)", "no");
        H.isAll("arg(N, f(a), X)", "ball error(instantiation_error,_1)");
        H.isAll("arg(a, f(a), X)", "ball error(type_error(integer,a),_1)");
        H.isAll("arg(1, T, X)", "ball error(instantiation_error,_1)");
        H.isAll("arg(-1, a, X)", "ball error(type_error(compound,a),_1)");
        H.isAll("arg(-1, f(a), X)", "ball error(domain_error(not_less_than_zero,-1),_1)");
        H.isAll("f(a, X) =.. L", "X = _1, L = [f,a,_1]; no");
        H.isAll("3 =.. L, a =.. M", "L = [3], M = [a]; no");
        H.isAll("T =.. [f, 1]", "T = f(1); no");
        H.isAll("T =.. [3]", "T = 3; no");
        H.isAll("T =.. L", "ball error(instantiation_error,_1)");
        H.isAll("T =.. [f|L]", "ball error(instantiation_error,_1)");
        H.isAll("T =.. [f|a]", "ball error(type_error(list,[f|a]),_1)");
        H.isAll("T =.. []", "ball error(domain_error(non_empty_list,[]),_1)");
        H.isAll("T =.. [X]", "ball error(instantiation_error,_1)");
        H.isAll("T =.. [f(a)]", "ball error(type_error(atomic,f(a)),_1)");
        H.isAll("T =.. [3, a]", "ball error(type_error(atom,3),_1)");
        H.isAll("length(L, 256), T =.. [f|L]", "ball error(representation_error(max_arity),_1)");
        H.isAll("copy_term(f(X, Y, X), C)", "X = _1, Y = _1, C = f(_1,_2,_1); no");
        H.isAll("term_variables(f(X, g(Y), X, _), L)", "X = _1, Y = _1, L = [_1,_2,_3]; no");
        H.isAll("var(X), nonvar(a), atom([]), integer(3), atomic(a), compound(f(x)), callable(a), is_list([a])",
                "X = _1; no");
        H.isAll("atom(3) ; integer(a) ; atomic(f(x)) ; compound([]) ; callable(3) ; is_list([a|b]) ; is_list(X)", "no");
        H.isAll("ground(f(a, [1]))", "yes; no");
        H.isAll("ground(f(a, X))", "no");
    }

    private static void arithmetic() {
        String[][] good = {{"7 // -2", "-3"}, {"-7 // 2", "-3"}, {"-7 div 2", "-4"}, {"7 div -2", "-4"}, {"-7 mod 3", "2"},
            {"7 mod -3", "-2"}, {"-7 rem 3", "-1"}, {"7 rem -3", "1"}, {"6 / -2", "-3"}, {"2 ^ 10", "1024"}, {"2 ** 0", "1"},
            {"0 ^ 0", "1"}, {"1 ** -5", "1"}, {"(-1) ^ -3", "-1"}, {"(-1) ^ -4", "1"}, {"(-2) ** 63", "-9223372036854775808"},
            {"1 << 62", "4611686018427387904"}, {"-1 << 63", "-9223372036854775808"}, {"-8 >> 1", "-4"}, {"-1 >> 63", "-1"},
            {"12 /\\ 10", "8"}, {"12 \\/ 10", "14"}, {"xor(12, 10)", "6"}, {"\\ 5", "-6"}, {"- 5", "-5"}, {"+ 5", "5"},
            {"abs(-5)", "5"}, {"sign(-5)", "-1"}, {"sign(0)", "0"}, {"min(2, -3)", "-3"}, {"max(2, -3)", "2"},
            {"gcd(12, -18)", "6"}, {"gcd(0, 0)", "0"}, {"msb(1)", "0"}, {"msb(9223372036854775807)", "62"},
            {"-9223372036854775808 rem -1", "0"}, {"-9223372036854775808 mod -1", "0"}, {"2 + 3 * 4 - 1", "13"}};
        for (String[] row : good) {
            H.isAll("X is " + row[0], "X = " + row[1] + "; no");
        }
        String[][] bad = {{"9223372036854775807 + 1", "int_overflow"}, {"-9223372036854775808 - 1", "int_overflow"},
            {"4611686018427387904 * 2", "int_overflow"}, {"-9223372036854775808 * -1", "int_overflow"},
            {"- (-9223372036854775808)", "int_overflow"}, {"abs(-9223372036854775808)", "int_overflow"},
            {"-9223372036854775808 // -1", "int_overflow"}, {"-9223372036854775808 div -1", "int_overflow"},
            {"gcd(-9223372036854775808, 0)", "int_overflow"}, {"2 ** 63", "int_overflow"}, {"1 << 63", "int_overflow"},
            {"7 / 2", "undefined"}, {"1 << 64", "undefined"}, {"1 >> -1", "undefined"}, {"msb(0)", "undefined"},
            {"1 // 0", "zero_divisor"}, {"1 / 0", "zero_divisor"}, {"1 mod 0", "zero_divisor"}, {"1 rem 0", "zero_divisor"},
            {"1 div 0", "zero_divisor"}, {"0 ** -1", "zero_divisor"}};
        for (String[] row : bad) {
            H.isAll("X is " + row[0], "ball error(evaluation_error(" + row[1] + "),_1)");
        }
        H.isAll("X is 2 ** -1", "ball error(type_error(float,2),_1)");
        H.isAll("X is Y + 1", "ball error(instantiation_error,_1)");
        H.isAll("X is foo", "ball error(type_error(evaluable,foo / 0),_1)");
        H.isAll("X is foo(Y, a)", "ball error(type_error(evaluable,foo / 2),_1)");
        H.isAll("X is [1]", "ball error(type_error(evaluable,'.' / 2),_1)");
        H.isAll("1 + 1 =:= 2, 1 =\\= 2, 1 < 2, 2 > 1, 1 =< 1, 1 >= 1", "yes; no");
        H.isAll("1 =:= 2 ; 1 =\\= 1 ; 2 < 2 ; 1 > 1 ; 2 =< 1 ; 1 >= 2", "no");
        H.isAll("3 is 1 + 2", "yes; no");
        H.isAll("1 < a", "ball error(type_error(evaluable,a / 0),_1)");
    }

    private static void lists() {
        H.isAll("length([a, b], N)", "N = 2; no");
        H.isAll("length(L, 2)", "L = [_1,_2]; no");
        H.isAll("length([a|T], 3)", "T = [_1,_2]; no");
        H.isAll("length([a, b|T], 1)", "no");
        H.isAll("length([a|T], N), N > 1, !", "T = [_1], N = 2; no");
        H.isAll("length(L, L)", "spent");
        H.isAll("length([a|b], N)", "ball error(type_error(list,[a|b]),_1)");
        H.isAll("length(L, a)", "ball error(type_error(integer,a),_1)");
        H.isAll("length(a, -1)", "ball error(domain_error(not_less_than_zero,-1),_1)");
        H.isAll("between(2, 4, X)", "X = 2; X = 3; X = 4; no");
        H.isAll("between(2, 4, 3)", "yes; no");
        H.isAll("between(2, 4, 5)", "no");
        H.isAll("between(4, 2, X)", "no");
        H.isAll("between(9223372036854775806, 9223372036854775807, X)",
                "X = 9223372036854775806; X = 9223372036854775807; no");
        H.isAll("between(X, 2, 3)", "ball error(instantiation_error,_1)");
        H.isAll("between(1, a, X)", "ball error(type_error(integer,a),_1)");
        H.isAll("between(1, 2, a)", "ball error(type_error(integer,a),_1)");
        H.isAll("sort([c, a, b, a], L), msort([c, a, b, a], M)", "L = [a,b,c], M = [a,a,b,c]; no");
        H.isAll("sort([f(x), 2, a, \"s\", 1, z], L)", "L = [1,2,a,z,f(x),[115]]; no");
        H.isAll("keysort([b-1, a-2, b-0, a-1], L)", "L = [a - 2,a - 1,b - 1,b - 0]; no");
        H.isAll("keysort([a-1, X], L)", "ball error(instantiation_error,_1)");
        H.isAll("keysort([a-1, b], L)", "ball error(type_error(pair,b),_1)");
        H.isAll("sort([a|X], L)", "ball error(instantiation_error,_1)");
        H.isAll("msort([a|b], L)", "ball error(type_error(list,[a|b]),_1)");
        H.isAll("sort([], L)", "L = []; no");
    }

    private static void defined() {
        H.isAll("append(X, Y, [1, 2])", "X = [], Y = [1,2]; X = [1], Y = [2]; X = [1,2], Y = []; no");
        H.isAll("member(X, [a, b])", "X = a; X = b; no");
        H.isAll("memberchk(X, [a, b])", "X = a; no");
        H.isAll("reverse([1, 2, 3], L)", "L = [3,2,1]; no");
        H.isAll("select(X, [1, 2, 3], R)", "X = 1, R = [2,3]; X = 2, R = [1,3]; X = 3, R = [1,2]; no");
        H.isAll("permutation([1, 2, 3], L)",
                "L = [1,2,3]; L = [1,3,2]; L = [2,1,3]; L = [2,3,1]; L = [3,1,2]; L = [3,2,1]; no");
        H.isAll("nth0(I, [a, b], b), nth1(J, [a, b], b), last([a, b], X)", "I = 1, J = 2, X = b; no");
        H.isAll("maplist(integer, [1, 2]), maplist(=(X), [1, 1])", "X = 1; no");
        H.isAll("maplist(is, [A, B], [1 + 1, 2 + 2])", "A = 2, B = 4; no");
        H.consult("add(X, A, B) :- B is A + X.");
        H.isAll("foldl(add, [1, 2, 3], 0, S), sum_list([1, 2, 3], T)", "S = 6, T = 6; no");
        H.isAll("numlist(2, 5, L)", "L = [2,3,4,5]; no");
        H.isAll("delete([a, b, a, c], a, L)", "L = [b,c]; no");
        H.isAll("exclude(==(a), [a, b, a], L), include(==(a), [a, b, a], M)", "L = [b], M = [a,a]; no");
    }

    /** Each number is counted by hand from the document. */
    private static void work() {
        H.isWork("true", 1);
        H.isWork("X = 1", 3);
        H.isWork("f(X, b) = f(a, b)", 5);
        H.isWork("f(a, b) = f(c, d)", 3);
        H.isWork("X = Y", 2);
        H.isWork("X = X", 2);
        H.isWork("X = f(a, X)", 5);
        H.isWork("X = true, X", 9);
        H.isWork("once(true)", 7);
        H.isWork("ignore(true)", 9);
        H.isWork("forall(true, true)", 9);
        H.isWork("(true -> true ; fail)", 5 + 3);
        H.isWork("(fail -> true ; true)", 5 + 3);
        H.isWork("(true -> true)", 3 + 3);
        H.isWork("(true *-> true ; fail)", 5 + 3);
        H.isWork("\\+ fail", 2);
        H.isWork("call((true, true))", 1 + 3 + 3);
        H.isWork("call(=, a, a)", 1 + 2 + 2);
        H.isWork("catch(throw(f(a)), f(X), true)", 1 + 1 + 2 + 2 + 3 + 1);
        H.isWork("foo(1)", 1 + 7);
        H.isWork("catch(foo, error(_, _), true)", 1 + 1 + 7 + 7 + 1 + 6 + 1 + 1);
        H.isWork("q(X)", 30);
        H.isWork("findall(X, p(X), L)", 1 + 1 + 18 + 3 + 3 + 8);
        H.isWork("X is 1 + 2 * 3", 1 + 5 + 2);
        H.isWork("X is 1 + foo", 1 + 3 + 7);
        H.isWork("1 + 1 < 3", 1 + 3 + 1);
        H.isWork("f(a, X) == f(a, Y)", 4);
        H.isWork("f(a, X) == g(a, Y)", 2);
        H.isWork("compare(O, a, b)", 1 + 1 + 2);
        H.isWork("functor(T, f, 3)", 1 + 3 + 5);
        H.isWork("functor(f(a), N, A)", 1 + 2 + 2);
        H.isWork("f(a, b) =.. L", 1 + 2 + 8);
        H.isWork("T =.. [f, a, b]", 1 + 2 + 4);
        H.isWork("copy_term(f(X, Y), Z)", 1 + 3 + 4);
        H.isWork("term_variables(f(X, Y), L)", 1 + 3 + 6);
        H.isWork("ground(f(a, X, b))", 1 + 4);
        H.isWork("is_list([a, b|T])", 1 + 2);
        H.isWork("length([a, b], N)", 1 + 2 + 2);
        H.isWork("length(L, 2)", 1 + 2 + 6);
        H.isWork("length(L, N)", 1 + 1 + 2 + 2);
        H.isWork("length(L, N), N > 0", 3 + 1 + 1 + 5 + 3 + (1 + 1 + 4 + 2) + 3);
        H.isWork("between(1, 3, X)", 1 + 3);
        H.isWork("between(1, 3, 2)", 1 + 1);
        H.isWork("between(3, 1, X)", 1);
        H.isWork("sort([c, a, b, a], L)", 1 + 4 + 2 + 3 + 3 + 8);
        H.isWork("msort([c, a, b], L)", 1 + 3 + 1 + 2 + 8);
        H.isWork("keysort([b-1, a-2], L)", 1 + 2 + 1 + (1 + 9));
        H.isWork("keysort([a-1, b], L)", 1 + 5);
        H.isWork("arg(1, f(a), X)", 3);
        H.isWork("throw(f(a, X))", 1 + 3);
        H.isWork("call((fail, 1))", 1 + 3 + 7);
    }
}
