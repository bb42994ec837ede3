/** RUNNING, control, ERRORS, arithmetic, terms, and their WORK. */
public final class RunTest {
    private static final String PROGRAM = "p(1). p(2). p(3). q(X) :- p(X), X > 1. loop :- loop. c(X) :- p(X), !. c(9). "
            + "d(X) :- (p(X), X > 1 -> true ; X = n). add(X, A, B) :- B is A + X.";
    private static House house = new House();

    /** A house with the program; a new one before the one there is has been called too often. */
    private static House h() {
        if (house.x.calls == 0 || house.x.calls > House.MOST_CALLS - 130) {
            house = new House();
            house.consult(PROGRAM);
        }
        return house;
    }

    public static void main(String[] args) {
        control();
        cuts();
        balls();
        errors();
        unification();
        order();
        terms();
        arithmetic();
        lists();
        defined();
        work();
        House.finish();
    }

    private static void control() {
        h().isAll("true", "yes; no");
        h().isAll("fail", "no");
        h().isAll("p(X), p(Y), X > Y", "X = 2, Y = 1; X = 3, Y = 1; X = 3, Y = 2; no");
        h().isAll("X = 1 ; X = 2 ; X = 3", "X = 1; X = 2; X = 3; no");
        h().isAll("(p(X) -> Y = a ; Y = b)", "X = 1, Y = a; no");
        h().isAll("(fail -> Y = a ; Y = b)", "Y = b; no");
        h().isAll("(p(X) -> Y = a)", "X = 1, Y = a; no");
        h().isAll("(fail -> true)", "no");
        h().isAll("(p(X) *-> Y = a ; Y = b)", "X = 1, Y = a; X = 2, Y = a; X = 3, Y = a; no");
        h().isAll("(fail *-> Y = a ; Y = b)", "Y = b; no");
        h().isAll("(p(X) *-> X > 1)", "X = 2; X = 3; no");
        h().isAll("\\+ p(4)", "yes; no");
        h().isAll("\\+ p(X)", "no");
        h().isAll("\\+ \\+ X = 1", "X = _1; no");
        h().isAll("call(p, X), X > 2", "X = 3; no");
        h().isAll("call(=(X), 1)", "X = 1; no");
        h().isAll("call(foldl, [X, A, B] ^ true, [], 0, S)", "X = _1, A = _1, B = _1, S = 0; no");
        h().isAll("call(call, call, =, X, 1)", "X = 1; no");
        h().isAll("once(p(X))", "X = 1; no");
        h().isAll("ignore((p(X), X > 1))", "X = 2; no");
        h().isAll("ignore(fail)", "yes; no");
        h().isAll("forall(p(X), X > 0)", "X = _1; no");
        h().isAll("forall(p(X), X > 1)", "no");
        h().isAll("X = (p(Y), Y > 2), X", "X = (p(3),3 > 2), Y = 3; no".replace("X = (p(3),3 > 2)", "X = p(3),3 > 2"));
        h().isAll("q(X)", "X = 2; X = 3; no");
        h().isAll("d(X)", "X = 2; no");
        h().isFirst("loop", "spent");
    }

    private static void cuts() {
        h().isAll("p(X), !", "X = 1; no");
        h().isAll("c(X)", "X = 1; no");
        h().isAll("call((p(X), !)) ; X = z", "X = 1; X = z; no");
        h().isAll("(p(X), ! ; X = z)", "X = 1; no");
        h().isAll("((p(X), ! -> true ; fail) ; X = z)", "X = 1; X = z; no");
        h().isAll("p(X), (X > 1, ! ; fail)", "X = 2; no");
        h().isAll("p(X), \\+ (!, fail)", "X = 1; X = 2; X = 3; no");
        h().isAll("X = !, p(Y), X", "X = !, Y = 1; X = !, Y = 2; X = !, Y = 3; no");
        h().isAll("findall(X, (p(X), !), L)", "X = _1, L = [1]; no");
        h().isAll("catch((p(X), !), _, true) ; X = z", "X = 1; X = z; no");
        h().isAll("forall((p(X), !), X = 1)", "X = _1; no");
        h().isAll("(true ; X = z), once(p(X)), !", "X = 1; no");
        h().isAll("(p(X) *-> ! ; true)", "X = 1; no");
        h().isAll("call(!) ; X = z", "X = _1; X = z; no");
    }

    private static void balls() {
        h().isAll("throw(a)", "ball a");
        h().isAll("throw(f(X, Y, X))", "ball f(_1,_2,_1)");
        h().isAll("throw(X)", "ball error(instantiation_error,_1)");
        h().isAll("catch(throw(f(X)), f(Y), Y = 1)", "X = _1, Y = 1; no");
        h().isAll("catch(throw(a), b, true)", "ball a");
        h().isAll("catch(catch(throw(a), b, true), a, X = 1)", "X = 1; no");
        h().isAll("catch(catch(throw(a), a, throw(b)), b, X = 1)", "X = 1; no");
        h().isAll("catch((X = 1, throw(a)), a, true)", "X = _1; no");
        h().isAll("catch(p(X), _, true), X > 1, throw(X)", "ball 2");
        h().isAll("catch((p(X), X > 1, throw(t(X))), t(Y), true)", "X = _1, Y = 2; no");
        h().isAll("catch(p(X), _, true)", "X = 1; X = 2; X = 3; no");
        h().isAll("catch(throw(a), X, (X = a ; X = b))", "X = a; no");
        h().isAll("findall(X, catch((p(X), (X > 2 -> throw(e) ; true)), e, X = c), L)", "X = _1, L = [1,2,c]; no");
        h().isAll("catch(findall(X, (p(X), X > 1, throw(e)), L), e, findall(Y, p(Y), L))",
                "X = _1, L = [1,2,3], Y = _1; no");
        h().isAll("catch(\\+ throw(a), a, true)", "yes; no");
        h().isAll("catch(3, error(E, _), true)", "E = type_error(callable,3); no");
        h().isAll("catch(true, _, 3)", "yes; no");
        h().isAll("catch(throw(a), _, 3)", "ball error(type_error(callable,3),_1)");
    }

    private static void errors() {
        h().isAll("X", "ball error(instantiation_error,_1)");
        h().isAll("3", "ball error(type_error(callable,3),_1)");
        h().isAll("foo(1, 2)", "ball error(existence_error(procedure,foo / 2),_1)");
        h().isAll("call((fail, 1))", "ball error(type_error(callable,(fail,1)),_1)");
        h().isAll("call((true ; 1))", "ball error(type_error(callable,(true ; 1)),_1)");
        h().isAll("call((true -> 1))", "ball error(type_error(callable,(true -> 1)),_1)");
        h().isAll("call((true, \\+ 1))", "ball error(type_error(callable,1),_1)");
        h().isAll("write(a), (true ; 2)", "ball error(type_error(callable,(write(a),(true ; 2))),_1)");
        h().isAll("call(1, a)", "ball error(type_error(callable,1),_1)");
        h().isAll("call(X, a)", "ball error(instantiation_error,_1)");
        h().isAll("once(3)", "ball error(type_error(callable,(3 -> true)),_1)");
        h().isAll("ignore(3)", "ball error(type_error(callable,(3 -> true ; true)),_1)");
        h().isAll("forall(3, true)", "ball error(type_error(callable,(3,\\+ true)),_1)");
        h().isAll("once(X)", "ball error(instantiation_error,_1)");
        h().isAll("\\+ X", "ball error(instantiation_error,_1)");
        h().isAll("findall(X, Y, L)", "ball error(instantiation_error,_1)");
        h().isAll("functor(T, f, 255), T =.. L, call(T, a)", "ball error(representation_error(max_arity),_1)");
    }

    private static void unification() {
        h().isAll("X = Y, Y = 1", "X = 1, Y = 1; no");
        h().isAll("X = f(X)", "no");
        h().isAll("f(X, g(X)) = f(Y, Y)", "no");
        h().isAll("f(X, b) = f(a, Y)", "X = a, Y = b; no");
        h().isAll("f(a) = f(a, b)", "no");
        h().isAll("1 = a", "no");
        h().isAll("9223372036854775807 = 9223372036854775807", "yes; no");
        h().isAll("X \\= a", "no");
        h().isAll("f(X, a) \\= f(b, c)", "X = _1; no");
    }

    private static void order() {
        h().isAll("X @< Y, X @< 1, 1 @< a, a @< f(a), g(a) @< f(a, b), f(a) @< g(a), f(a) @< f(b)",
                "X = _1, Y = _1; no");
        h().isAll("f(X, Y), X @< Y ; true", "ball error(existence_error(procedure,f / 2),_1)");
        h().isAll("X == X, X \\== Y, a @=< a, b @>= a, b @> a", "X = _1, Y = _1; no");
        h().isAll("ab @< abc, 'Z' @< a, -3 @< 2, 9223372036854775807 @> 1", "yes; no");
        h().isAll("compare(A, 1, 2), compare(B, f(b), f(a)), compare(C, x, x)", "A = <, B = >, C = =; no");
        h().isAll("compare(<, 2, 1)", "no");
        h().isAll("compare(1, a, b)", "ball error(type_error(atom,1),_1)");
        h().isAll("compare(a, a, b)", "ball error(domain_error(order,a),_1)");
        h().isAll("copy_term(f(Y, X), f(A, B)), A @< B, Y = X", "Y = _1, X = _1, A = _1, B = _1; no");
        h().isAll("length(L, 2), L = [A, B], A @< B", "L = [_1,_2], A = _1, B = _1; no");
    }

    private static void terms() {
        h().isAll("functor(f(a, b), N, A)", "N = f, A = 2; no");
        h().isAll("functor(3, N, A)", "N = 3, A = 0; no");
        h().isAll("functor([a], N, A)", "N = '.', A = 2; no");
        h().isAll("functor(T, f, 2)", "T = f(_1,_2); no");
        h().isAll("functor(T, 3, 0)", "T = 3; no");
        h().isAll("functor(T, N, 2)", "ball error(instantiation_error,_1)");
        h().isAll("functor(T, f, A)", "ball error(instantiation_error,_1)");
        h().isAll("functor(T, f, a)", "ball error(type_error(integer,a),_1)");
        h().isAll("functor(T, f, -1)", "ball error(domain_error(not_less_than_zero,-1),_1)");
        h().isAll("functor(T, f, 256)", "ball error(representation_error(max_arity),_1)");
        h().isAll("functor(T, f(a), 0)", "ball error(type_error(atomic,f(a)),_1)");
        h().isAll("functor(T, 3, 1)", "ball error(type_error(atom,3),_1)");
        h().isAll("arg(2, f(a, b), X)", "X = b; no");
        h().isAll("arg(3, f(a, b), X)", "no");
        h().isAll("arg(0, f(a, b), X)", "no");
        h().isAll("arg(N, f(a), X)", "ball error(instantiation_error,_1)");
        h().isAll("arg(a, f(a), X)", "ball error(type_error(integer,a),_1)");
        h().isAll("arg(1, T, X)", "ball error(instantiation_error,_1)");
        h().isAll("arg(-1, a, X)", "ball error(type_error(compound,a),_1)");
        h().isAll("arg(-1, f(a), X)", "ball error(domain_error(not_less_than_zero,-1),_1)");
        h().isAll("f(a, X) =.. L", "X = _1, L = [f,a,_1]; no");
        h().isAll("3 =.. L, a =.. M", "L = [3], M = [a]; no");
        h().isAll("T =.. [f, 1]", "T = f(1); no");
        h().isAll("T =.. [3]", "T = 3; no");
        h().isAll("T =.. L", "ball error(instantiation_error,_1)");
        h().isAll("T =.. [f|L]", "ball error(instantiation_error,_1)");
        h().isAll("T =.. [f|a]", "ball error(type_error(list,[f|a]),_1)");
        h().isAll("T =.. []", "ball error(domain_error(non_empty_list,[]),_1)");
        h().isAll("T =.. [X]", "ball error(instantiation_error,_1)");
        h().isAll("T =.. [f(a)]", "ball error(type_error(atomic,f(a)),_1)");
        h().isAll("T =.. [3, a]", "ball error(type_error(atom,3),_1)");
        h().isAll("length(L, 256), T =.. [f|L]", "ball error(representation_error(max_arity),_1)");
        h().isAll("copy_term(f(X, Y, X), C)", "X = _1, Y = _1, C = f(_1,_2,_1); no");
        h().isAll("term_variables(f(X, g(Y), X, _), L)", "X = _1, Y = _1, L = [_1,_2,_3]; no");
        h().isAll("var(X), nonvar(a), atom([]), integer(3), atomic(a), compound(f(x)), callable(a), is_list([a])",
                "X = _1; no");
        h().isAll("atom(3) ; integer(a) ; atomic(f(x)) ; compound([]) ; callable(3) ; is_list([a|b]) ; is_list(X)", "no");
        h().isAll("ground(f(a, [1]))", "yes; no");
        h().isAll("ground(f(a, X))", "no");
    }

    private static void arithmetic() {
        String[][] good = {{"7 // -2", "-3"}, {"-7 // 2", "-3"}, {"-7 div 2", "-4"}, {"7 div -2", "-4"}, {"-7 mod 3", "2"},
            {"7 mod -3", "-2"}, {"-7 rem 3", "-1"}, {"7 rem -3", "1"}, {"6 / -2", "-3"}, {"2 ^ 10", "1024"}, {"2 ** 0", "1"},
            {"0 ^ 0", "1"}, {"1 ** -5", "1"}, {"(-1) ^ -3", "-1"}, {"(-1) ^ -4", "1"}, {"(-2) ** 63", "-9223372036854775808"},
            {"1 << 62", "4611686018427387904"}, {"-1 << 63", "-9223372036854775808"}, {"-8 >> 1", "-4"}, {"-1 >> 63", "-1"},
            {"12 /\\ 10", "8"}, {"12 \\/ 10", "14"}, {"xor(12, 10)", "6"}, {"\\ 5", "-6"}, {"- 5", "-5"}, {"+ 5", "5"},
            {"abs(-5)", "5"}, {"sign(-5)", "-1"}, {"sign(0)", "0"}, {"min(2, -3)", "-3"}, {"max(2, -3)", "2"},
            {"gcd(12, -18)", "6"}, {"gcd(0, 0)", "0"}, {"msb(1)", "0"}, {"msb(9223372036854775807)", "62"},
            {"-9223372036854775808 rem -1", "0"}, {"-9223372036854775808 mod -1", "0"}, {"2 + 3 * 4 - 1", "13"}};
        for (String[] row : good) {
            h().isAll("X is " + row[0], "X = " + row[1] + "; no");
        }
        String[][] bad = {{"9223372036854775807 + 1", "int_overflow"}, {"-9223372036854775808 - 1", "int_overflow"},
            {"4611686018427387904 * 2", "int_overflow"}, {"-9223372036854775808 * -1", "int_overflow"},
            {"- (-9223372036854775808)", "int_overflow"}, {"abs(-9223372036854775808)", "int_overflow"},
            {"-9223372036854775808 // -1", "int_overflow"}, {"-9223372036854775808 div -1", "int_overflow"},
            {"gcd(-9223372036854775808, 0)", "int_overflow"}, {"2 ** 63", "int_overflow"}, {"1 << 63", "int_overflow"},
            {"7 / 2", "undefined"}, {"1 << 64", "undefined"}, {"1 >> -1", "undefined"}, {"msb(0)", "undefined"},
            {"1 // 0", "zero_divisor"}, {"1 / 0", "zero_divisor"}, {"1 mod 0", "zero_divisor"}, {"1 rem 0", "zero_divisor"},
            {"1 div 0", "zero_divisor"}, {"0 ** -1", "zero_divisor"}};
        for (String[] row : bad) {
            h().isAll("X is " + row[0], "ball error(evaluation_error(" + row[1] + "),_1)");
        }
        h().isAll("X is 2 ** -1", "ball error(type_error(float,2),_1)");
        h().isAll("X is Y + 1", "ball error(instantiation_error,_1)");
        h().isAll("X is foo", "ball error(type_error(evaluable,foo / 0),_1)");
        h().isAll("X is foo(Y, a)", "ball error(type_error(evaluable,foo / 2),_1)");
        h().isAll("X is [1]", "ball error(type_error(evaluable,'.' / 2),_1)");
        h().isAll("1 + 1 =:= 2, 1 =\\= 2, 1 < 2, 2 > 1, 1 =< 1, 1 >= 1", "yes; no");
        h().isAll("1 =:= 2 ; 1 =\\= 1 ; 2 < 2 ; 1 > 1 ; 2 =< 1 ; 1 >= 2", "no");
        h().isAll("3 is 1 + 2", "yes; no");
        h().isAll("1 < a", "ball error(type_error(evaluable,a / 0),_1)");
    }

    private static void lists() {
        h().isAll("length([a, b], N)", "N = 2; no");
        h().isAll("length(L, 2)", "L = [_1,_2]; no");
        h().isAll("length([a|T], 3)", "T = [_1,_2]; no");
        h().isAll("length([a, b|T], 1)", "no");
        h().isAll("length([a|T], N), N > 1, !", "T = [_1], N = 2; no");
        h().isAll("length(L, L)", "spent");
        h().isAll("length([a|b], N)", "ball error(type_error(list,[a|b]),_1)");
        h().isAll("length(L, a)", "ball error(type_error(integer,a),_1)");
        h().isAll("length(a, -1)", "ball error(domain_error(not_less_than_zero,-1),_1)");
        h().isAll("between(2, 4, X)", "X = 2; X = 3; X = 4; no");
        h().isAll("between(2, 4, 3)", "yes; no");
        h().isAll("between(2, 4, 5)", "no");
        h().isAll("between(4, 2, X)", "no");
        h().isAll("between(9223372036854775806, 9223372036854775807, X)",
                "X = 9223372036854775806; X = 9223372036854775807; no");
        h().isAll("between(X, 2, 3)", "ball error(instantiation_error,_1)");
        h().isAll("between(1, a, X)", "ball error(type_error(integer,a),_1)");
        h().isAll("between(1, 2, a)", "ball error(type_error(integer,a),_1)");
        h().isAll("sort([c, a, b, a], L), msort([c, a, b, a], M)", "L = [a,b,c], M = [a,a,b,c]; no");
        h().isAll("sort([f(x), 2, a, \"s\", 1, z], L)", "L = [1,2,a,z,f(x),[115]]; no");
        h().isAll("keysort([b-1, a-2, b-0, a-1], L)", "L = [a - 2,a - 1,b - 1,b - 0]; no");
        h().isAll("keysort([a-1, X], L)", "ball error(instantiation_error,_1)");
        h().isAll("keysort([a-1, b], L)", "ball error(type_error(pair,b),_1)");
        h().isAll("sort([a|X], L)", "ball error(instantiation_error,_1)");
        h().isAll("msort([a|b], L)", "ball error(type_error(list,[a|b]),_1)");
        h().isAll("sort([], L)", "L = []; no");
    }

    private static void defined() {
        h().isAll("append(X, Y, [1, 2])", "X = [], Y = [1,2]; X = [1], Y = [2]; X = [1,2], Y = []; no");
        h().isAll("member(X, [a, b])", "X = a; X = b; no");
        h().isAll("memberchk(X, [a, b])", "X = a; no");
        h().isAll("reverse([1, 2, 3], L)", "L = [3,2,1]; no");
        h().isAll("select(X, [1, 2, 3], R)", "X = 1, R = [2,3]; X = 2, R = [1,3]; X = 3, R = [1,2]; no");
        h().isAll("permutation([1, 2, 3], L)",
                "L = [1,2,3]; L = [1,3,2]; L = [2,1,3]; L = [2,3,1]; L = [3,1,2]; L = [3,2,1]; no");
        h().isAll("nth0(I, [a, b], b), nth1(J, [a, b], b), last([a, b], X)", "I = 1, J = 2, X = b; no");
        h().isAll("maplist(integer, [1, 2]), maplist(=(X), [1, 1])", "X = 1; no");
        h().isAll("maplist(is, [A, B], [1 + 1, 2 + 2])", "A = 2, B = 4; no");
        h().isAll("foldl(add, [1, 2, 3], 0, S), sum_list([1, 2, 3], T)", "S = 6, T = 6; no");
        h().isAll("numlist(2, 5, L)", "L = [2,3,4,5]; no");
        h().isAll("delete([a, b, a, c], a, L)", "L = [b,c]; no");
        h().isAll("exclude(==(a), [a, b, a], L), include(==(a), [a, b, a], M)", "L = [b], M = [a,a]; no");
    }

    /** Each number is counted by hand from the document. */
    private static void work() {
        h().isWork("true", 1);
        h().isWork("X = 1", 3);
        h().isWork("f(X, b) = f(a, b)", 5);
        h().isWork("f(a, b) = f(c, d)", 3);
        h().isWork("X = Y", 2);
        h().isWork("X = X", 2);
        h().isWork("X = f(a, X)", 5);
        h().isWork("X = true, X", 9);
        h().isWork("once(true)", 7);
        h().isWork("ignore(true)", 9);
        h().isWork("forall(true, true)", 9);
        h().isWork("(true -> true ; fail)", 5 + 3);
        h().isWork("(fail -> true ; true)", 5 + 3);
        h().isWork("(true -> true)", 3 + 3);
        h().isWork("(true *-> true ; fail)", 5 + 3);
        h().isWork("\\+ fail", 2);
        h().isWork("call((true, true))", 1 + 3 + 3);
        h().isWork("call(=, a, a)", 1 + 2 + 2);
        h().isWork("catch(throw(f(a)), f(X), true)", 1 + 1 + 2 + 2 + 3 + 1);
        h().isWork("foo(1)", 1 + 7);
        h().isWork("catch(foo, error(_, _), true)", 1 + 1 + 7 + 7 + 1 + 6 + 1 + 1);
        h().isWork("q(X)", 30);
        h().isWork("findall(X, p(X), L)", 1 + 1 + 18 + 3 + 3 + 8);
        h().isWork("X is 1 + 2 * 3", 1 + 5 + 2);
        h().isWork("X is 1 + foo", 1 + 3 + 7);
        h().isWork("1 + 1 < 3", 1 + 3 + 1);
        h().isWork("f(a, X) == f(a, Y)", 4);
        h().isWork("f(a, X) == g(a, Y)", 2);
        h().isWork("compare(O, a, b)", 1 + 1 + 2);
        h().isWork("functor(T, f, 3)", 1 + 3 + 5);
        h().isWork("functor(f(a), N, A)", 1 + 2 + 2);
        h().isWork("f(a, b) =.. L", 1 + 2 + 8);
        h().isWork("T =.. [f, a, b]", 1 + 2 + 4);
        h().isWork("copy_term(f(X, Y), Z)", 1 + 3 + 4);
        h().isWork("term_variables(f(X, Y), L)", 1 + 3 + 6);
        h().isWork("ground(f(a, X, b))", 1 + 4);
        h().isWork("is_list([a, b|T])", 1 + 2);
        h().isWork("length([a, b], N)", 1 + 2 + 2);
        h().isWork("length(L, 2)", 1 + 2 + 6);
        h().isWork("length(L, N)", 1 + 1 + 2 + 2);
        h().isWork("length(L, N), N > 0", 3 + 1 + 1 + 5 + 3 + (1 + 1 + 4 + 2) + 3);
        h().isWork("between(1, 3, X)", 1 + 3);
        h().isWork("between(1, 3, 2)", 1 + 1);
        h().isWork("between(3, 1, X)", 1);
        h().isWork("sort([c, a, b, a], L)", 1 + 4 + 2 + 3 + 3 + 8);
        h().isWork("msort([c, a, b], L)", 1 + 3 + 1 + 2 + 8);
        h().isWork("keysort([b-1, a-2], L)", 1 + 2 + 1 + (1 + 9));
        h().isWork("keysort([a-1, b], L)", 1 + 5);
        h().isWork("arg(1, f(a), X)", 3);
        h().isWork("throw(f(a, X))", 1 + 3);
        h().isWork("call((fail, 1))", 1 + 3 + 7);
    }
}
