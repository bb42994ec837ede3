/** Clauses that change, dynamic and table, operators, values of keys; grammar rules. */
public final class DatabaseTest {
    public static void main(String[] args) {
        clauses();
        errors();
        updates();
        known();
        operators();
        values();
        grammar();
        phrase();
        work();
        House.finish();
    }

    private static void clauses() {
        House h = new House();
        h.isAll("assertz(a(1)), assertz(a(2)), asserta(a(0)), findall(X, a(X), L)", "X = _1, L = [0,1,2]; no");
        h.isAll("retract(a(1)), findall(X, a(X), L)", "X = _1, L = [0,2]; no");
        h.isAll("assertz((b(X) :- X, c ; Y -> Z)), clause(b(A), B)",
                "X = _1, Y = _1, Z = _1, A = _1, B = call(_1),c ; call(_2) -> call(_3); no");
        h.isAll("assertz((e(X) :- a(X))), e(2), clause(e(X), B)", "X = _1, B = a(_1); no");
        h.isAll("retract((e(X) :- B)), \\+ e(_)", "X = _1, B = a(_1); no");
        h.isAll("clause(a(X), true)", "X = 0; X = 2; no");
        h.isAll("clause(none(X), B)", "no");
        h.isAll("retract(none(X))", "no");
        h.isAll("retract(a(X))", "X = 0; X = 2; no");
        h.isAll("a(X)", "no");
        h.isAll("assertz(f(X, Y, X)), f(1, 2, Z)", "X = _1, Y = _1, Z = 1; no");
        House.same("clauses", h.x.count(3), 2);
    }

    private static void errors() {
        House h = new House();
        h.isAll("assertz(X)", "ball error(instantiation_error,_1)");
        h.isAll("assertz((X :- a))", "ball error(instantiation_error,_1)");
        h.isAll("assertz(3)", "ball error(type_error(callable,3),_1)");
        h.isAll("assertz((a :- 3))", "ball error(type_error(callable,3),_1)");
        h.isAll("asserta((a :- b, (c ; 3)))", "ball error(type_error(callable,(b,(c ; 3))),_1)");
        h.isAll("assertz((call(X) :- true))", "ball error(permission_error(modify,static_procedure,call / 1),_1)");
        h.isAll("assertz((a, b))", "ball error(permission_error(modify,static_procedure,(',') / 2),_1)");
        h.isAll("assertz('$r'(a, b, c))", "ball error(permission_error(modify,static_procedure,'$r' / 3),_1)");
        h.isAll("assertz((atom(X) :- 3))", "ball error(type_error(callable,3),_1)");
        h.isAll("retract(X)", "ball error(instantiation_error,_1)");
        h.isAll("retract((3 :- a))", "ball error(type_error(callable,3),_1)");
        h.isAll("retract(append(_, _, _))", "ball error(permission_error(modify,static_procedure,append / 3),_1)");
        h.isAll("retractall(X)", "ball error(instantiation_error,_1)");
        h.isAll("retractall(write(_))", "ball error(permission_error(modify,static_procedure,write / 1),_1)");
        h.isAll("clause(X, B)", "ball error(instantiation_error,_1)");
        h.isAll("clause(3, B)", "ball error(type_error(callable,3),_1)");
        h.isAll("clause(a, 3)", "ball error(type_error(callable,3),_1)");
        h.isAll("clause(member(_, _), B)", "ball error(permission_error(access,private_procedure,member / 2),_1)");
        h.isAll("assertz((H --> b))", "H = _1; no");
        House.same("a rule is turned by consult alone", h.listing("(-->)/2"), "1: _1 --> b.\n");
    }

    /** A goal is called with the clauses of then. */
    private static void updates() {
        House h = new House();
        h.consult("d(1). d(2). d(3).");
        h.isAll("d(X), assertz(d(9))", "X = 1; X = 2; X = 3; no");
        h.isAll("retract(d(9)), fail ; d(X)", "X = 1; X = 2; X = 3; no");
        h.isAll("d(X), retractall(d(_))", "X = 1; X = 2; X = 3; no");
        h.isAll("d(X)", "no");
        h.consult("e(1). e(2). e(3).");
        h.isAll("retract(e(X)), retractall(e(_))", "X = 1; no");
        h.consult("f(1). f(2). f(3).");
        h.isAll("clause(f(X), true), retractall(f(_))", "X = 1; X = 2; X = 3; no");
        h.consult("g(1). g(2). g(3).");
        h.isAll("g(X), retract(g(2)), asserta(g(0)) ; g(X)", "X = 1; X = 0; X = 1; X = 3; no");
        h.consult("c(0). up :- retract(c(N)), M is N + 1, assertz(c(M)).");
        h.isAll("between(1, 300, _), up, fail ; c(X)", "X = 300; no");
        h.isAll("retractall(c(_)), assertz(c(a)), assertz(c(b)), retract(c(b)), assertz(c(d)), findall(X, c(X), L)",
                "X = _1, L = [a,d]; no");
    }

    private static void known() {
        House h = new House();
        h.isAll("dynamic(a/1), dynamic((b/0, [c/2, d/255])), a(X)", "no");
        House.same("known", h.x.count(4), 4);
        h.isAll("b", "no");
        h.isAll("retractall(e(_)), e(X)", "no");
        h.isAll("assertz(f(1)), assertz(g(1)), retract(f(1)), f(X)", "no");
        h.isAll("current_predicate(P)", "P = g / 1; no");
        h.consult("a(1). g(x, y).");
        h.isAll("current_predicate(P)", "P = a / 1; P = g / 1; P = g / 2; no");
        h.isAll("current_predicate(g/A)", "A = 1; A = 2; no");
        h.isAll("current_predicate(N/2)", "N = g; no");
        h.isAll("current_predicate(append/3)", "no");
        h.isAll("current_predicate(3/a)", "no");
        h.isAll("current_predicate(g)", "ball error(type_error(predicate_indicator,g),_1)");
        h.isAll("dynamic(X)", "ball error(instantiation_error,_1)");
        h.isAll("dynamic(x/X)", "ball error(instantiation_error,_1)");
        h.isAll("dynamic(X/1)", "ball error(instantiation_error,_1)");
        h.isAll("dynamic([x/1|X])", "ball error(instantiation_error,_1)");
        h.isAll("table(x)", "ball error(type_error(predicate_indicator,x),_1)");
        h.isAll("dynamic(x/256)", "ball error(type_error(predicate_indicator,x / 256),_1)");
        h.isAll("dynamic(x/(-1))", "ball error(type_error(predicate_indicator,x / -1),_1)");
        h.isAll("dynamic(3/1)", "ball error(type_error(predicate_indicator,3 / 1),_1)");
        h.isAll("dynamic((y/1, append/3, z/1))", "ball error(permission_error(modify,static_procedure,append / 3),_1)");
        h.isAll("y(X)", "no");
        h.isAll("z(X)", "ball error(existence_error(procedure,z / 1),_1)");
    }

    private static void operators() {
        House h = new House();
        h.isAll("op(200, xfy, &), op(700, xfx, [===>, <===]), op(300, fy, [])", "yes; no");
        House.same("operators", h.x.count(7), 47);
        h.isAll("X = (a & b & c ===> d), X =.. L", "X = a & b & c ===> d, L = [===>,a & b & c,d]; no");
        h.isAll("current_op(P, T, &)", "P = 200, T = xfy; no");
        h.isAll("current_op(200, fy, N)", "N = -; N = +; N = \\; no");
        h.isAll("current_op(P, T, -)", "P = 500, T = yfx; P = 200, T = fy; no");
        h.isAll("op(650, yfx, =), findall(N, current_op(_, yfx, N), [N1|_])", "N = _1, N1 = =; no");
        h.isAll("op(0, xfx, :-), findall(N, current_op(_, _, N), [N1|_])", "N = _1, N1 = -->; no");
        h.isAll("op(0, xfx, nothing)", "yes; no");
        h.isAll("op(P, xfx, a)", "ball error(instantiation_error,_1)");
        h.isAll("op(a, xfx, a)", "ball error(type_error(integer,a),_1)");
        h.isAll("op(1201, xfx, a)", "ball error(domain_error(operator_priority,1201),_1)");
        h.isAll("op(-1, X, a)", "ball error(domain_error(operator_priority,-1),_1)");
        h.isAll("op(1, T, a)", "ball error(instantiation_error,_1)");
        h.isAll("op(1, 2, a)", "ball error(type_error(atom,2),_1)");
        h.isAll("op(1, xf, a)", "ball error(domain_error(operator_specifier,xf),_1)");
        h.isAll("op(1, fx, N)", "ball error(instantiation_error,_1)");
        h.isAll("op(1, fx, 3)", "ball error(type_error(list,3),_1)");
        h.isAll("op(1, fx, [a|N])", "ball error(instantiation_error,_1)");
        h.isAll("op(1, fx, [a|b])", "ball error(type_error(list,[a|b]),_1)");
        h.isAll("op(1, fx, [a, N])", "ball error(instantiation_error,_1)");
        h.isAll("op(1, fx, [a, 3])", "ball error(type_error(atom,3),_1)");
        h.isAll("op(1, fx, ',')", "ball error(permission_error(modify,operator,','),_1)");
        h.isAll("op(1, fx, [[]])", "ball error(permission_error(create,operator,[]),_1)");
        h.isAll("op(1, fx, {})", "ball error(permission_error(create,operator,{}),_1)");
        h.isAll("op(1, fx, '|')", "ball error(permission_error(create,operator,'|'),_1)");
    }

    private static void values() {
        House h = new House();
        h.isAll("nb_setval(k, f(X, Y, X)), nb_getval(k, V)", "X = _1, Y = _1, V = f(_1,_2,_1); no");
        h.isAll("nb_getval(k, V)", "V = f(_1,_2,_1); no");
        h.isAll("b_setval(k, 1), b_getval(k, V)", "V = 1; no");
        h.isAll("b_getval(k, V)", "V = f(_1,_2,_1); no");
        h.isAll("b_setval(k, X), X = 2, b_getval(k, V)", "X = 2, V = 2; no");
        h.isAll("(b_setval(k, 1), fail ; b_getval(k, V))", "V = f(_1,_2,_1); no");
        h.isAll("b_setval(k, 1), nb_setval(k, 2), nb_getval(k, V)", "V = 2; no");
        h.isAll("nb_getval(k, V)", "V = f(_1,_2,_1); no");
        h.isAll("b_setval(new, 1), throw(x)", "ball x");
        h.isAll("b_getval(new, V)", "ball error(existence_error(variable,new),_1)");
        h.query("b_setval(k, 1)");
        h.x.next();
        h.query("a b");
        h.isAll("nb_getval(k, V)", "V = f(_1,_2,_1); no");
        h.isAll("(nb_setval(k, 3), fail ; nb_getval(k, V))", "V = 3; no");
        h.isAll("nb_getval(X, V)", "ball error(instantiation_error,_1)");
        h.isAll("nb_setval(X, 1)", "ball error(instantiation_error,_1)");
        h.isAll("b_setval(3, 1)", "ball error(type_error(atom,3),_1)");
    }

    private static void grammar() {
        House h = new House();
        House.same("rules", h.consult("greet --> [hello], name. name --> [world]. name --> \"ab\". x, [b] --> [a]. e --> []. "
                + "n --> \\+ [a], !, {}. v --> X. c(Y) --> call(foo, 1), {Y}, (a ; b -> d). w([]) --> w, {true}."), 9);
        House.same("a body", h.listing("greet/2"), "1: greet(_1,_2) :- _1 = [hello|_3],name(_3,_2).\n");
        House.same("lists", h.listing("name/2"), "2: name(_1,_2) :- _1 = [world|_2].\nname(_1,_2) :- _1 = [97,98|_2].\n");
        House.same("pushback", h.listing("x/2"), "1: x(_1,_2) :- _1 = [a|_3],_2 = [b|_3].\n");
        House.same("nothing", h.listing("e/2"), "1: e(_1,_2) :- _1 = _2.\n");
        House.same("control", h.listing("n/2"),
                "1: n(_1,_2) :- (\\+ _1 = [a|_3],_1 = _4),(!,_4 = _5),_5 = _2.\n");
        House.same("a variable", h.listing("v/2"), "1: v(_1,_2) :- phrase(_3,_1,_2).\n");
        House.same("call and {}", h.listing("c/3"), "1: c(_1,_2,_3) :- call(foo,1,_2,_4),(call(_1),_4 = _5),"
                + "(a(_5,_3) ; b(_5,_6) -> d(_6,_3)).\n");
        House.same("ERRORS", h.consult("X --> a. 3 --> a. a --> 3. a --> [b|c]. a --> [b|X]. a, b --> c. a, X --> c. "
                + "true --> a. a --> {3}. a --> b, 3."), 1);
        House.same("how many", h.x.count(10), 9);
        House.same("true/2 is not FIXED", h.listing("true/2"), "1: true(_1,_2) :- a(_1,_2).\n");
    }

    private static void phrase() {
        House h = new House();
        h.consult("greet --> [hello], name. name --> [world]. name --> [prolog]. digits([D|T]) --> digit(D), digits(T). "
                + "digits([D]) --> digit(D). digit(D) --> [D], { D >= 48, D =< 57 }. x, [b] --> [a].");
        h.isAll("phrase(greet, L)", "L = [hello,world]; L = [hello,prolog]; no");
        h.isAll("phrase(greet, [hello, X])", "X = world; X = prolog; no");
        h.isAll("phrase(digits(X), \"12\", R)", "X = [49,50], R = []; X = [49], R = [50]; no");
        h.isAll("phrase(x, [a, c], R)", "R = [b,c]; no");
        h.isAll("phrase(([a], [b] ; [c]), L)", "L = [a,b]; L = [c]; no");
        h.isAll("phrase(([a], ! ; [c]), L)", "L = [a]; no");
        h.isAll("phrase((\\+ [a], [b]), [b])", "yes; no");
        h.isAll("phrase({X = 1}, [])", "X = 1; no");
        h.isAll("phrase({}, L)", "L = []; no");
        h.isAll("phrase({X}, L)", "ball error(instantiation_error,_1)");
        h.isAll("phrase({3}, L)", "ball error(type_error(callable,3),_1)");
        h.isAll("phrase(({write(a), 3}, [b]), L)", "ball error(type_error(callable,3),_1)");
        House.same("what is ahead of an integer is called", h.out(), "a");
        h.isAll("phrase(({X = true}, {X}), [])", "X = true; no");
        h.isAll("phrase(({X = 1}, {X}), [])", "ball error(type_error(callable,1),_1)");
        h.isAll("member(Y, [1, 2]), phrase(({member(X, [1, 2])}, !), [])", "Y = 1, X = 1; Y = 2, X = 1; no");
        h.isAll("phrase(\"ab\", L, R)", "L = [97,98|_1], R = _1; no");
        h.isAll("phrase(X, L)", "ball error(instantiation_error,_1)");
        h.isAll("phrase((a, X), L)", "ball error(existence_error(procedure,a / 2),_1)");
        h.isAll("phrase(3, L)", "ball error(type_error(callable,3),_1)");
        h.isAll("phrase((a, [b|c]), L)", "ball error(type_error(list,[b|c]),_1)");
        h.isAll("phrase([b|X], L)", "ball error(instantiation_error,_1)");
        h.isAll("functor(T, f, 254), phrase(T, L)", "ball error(representation_error(max_arity),_1)");
        h.isWork("phrase(greet, [hello, world])", 42);
        h.isWork("phrase(greet, L)", 41);
        h.isWork("phrase(digits(X), \"123\", R)", 369);
        h.isWork("phrase(([a], [b]), L)", 1 + 5 + 1 + (1 + 4) + (1 + 4));
        h.isWork("phrase((a, 3), L)", 1 + 5);
    }

    /** Each number is counted by hand from the document. */
    private static void work() {
        House h = new House();
        h.isWork("assertz(a(1)), assertz(a(2)), asserta(a(0)), findall(X, a(X), L)", 56);
        h.isWork("assertz((b(X) :- c, d))", 1 + 3 + 5);
        h.isWork("assertz((b(X) :- X))", 1 + 4);
        h.isWork("assertz((b(X) :- a, X))", 1 + 3 + 6);
        h.isWork("assertz((b :- a, 3))", 1 + 3 + 7);
        h.isWork("clause(a(X), B)", 10);
        h.isWork("retract(a(1))", 1 + (1 + 3 + 2) + (1 + 3 + 3));
        h.isWork("retractall(a(9))", 1 + 2);
        h.isWork("retractall(a(_))", 1 + 2 + 2);
        h.isWork("nb_setval(k, f(a, X))", 1 + 3);
        h.isWork("nb_getval(k, V)", 1 + 3 + 4);
        h.isWork("b_setval(k, f(a)), b_getval(k, V)", 3 + 1 + 1 + 1 + 3);
        h.isWork("op(200, xfy, &)", 1);
        h.isWork("current_op(1200, xfx, -->)", 1 + (1 + 1 + 1 + 1) + (1 + 1 + 1 + 1));
        h.isWork("current_op(X, xfx, -->)", 1 + (1 + 2 + 1 + 1) + (1 + 2 + 1 + 1));
        h.isWork("assertz(z(1)), current_predicate(z/N)", 3 + 1 + 1 + 3 + 1 + (1 + 2) + (1 + 1 + 1 + 2));
    }
}
