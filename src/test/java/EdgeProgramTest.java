/** Programs at their edges: clauses, predicates, arities, numbers, texts, operators, values. */
public final class EdgeProgramTest {
    private static final String MAX = "9223372036854775807";
    private static final String MIN = "-9223372036854775808";
    private static House house = new House();

    /** A new house before the one there is has been called too often. */
    private static House h() {
        if (house.x.calls > House.MOST_CALLS - 60) {
            house = new House();
        }
        return house;
    }

    private static void error(String goal, String error) {
        h().isAll(goal, "ball error(" + error + ",_1)");
    }

    private static void yes(String goal) {
        h().isAll(goal, "yes; no");
    }

    public static void main(String[] args) {
        clauseCount();
        clauseRoom();
        predicateCount();
        toldToTable();
        manyToldToTable();
        clauseErrors();
        ruleArity();
        callArity();
        functor();
        arg();
        univ();
        sums();
        divisions();
        shifts();
        powers();
        otherNumbers();
        longAtoms();
        characterCodes();
        textErrors();
        operatorErrors();
        operatorRow();
        operatorCount();
        keyCount();
        valueRoom();
        roomOfNames();
        roomBeneath();
        roomWhenOver();
        backtrackedValues();
        lengths();
        betweens();
        sorts();
        indicators();
        age();
        comparing();
        terms();
        occurs();
        deepLeft();
        longTrail();
        manyVariables();
        sweptClauses();
        House.finish();
    }

    private static void clauseCount() {
        House h = new House();
        House.same("1001 clauses", h.consult("a. ".repeat(1001)), 1000);
        House.same("ERRORS", h.x.count(10) + " " + h.x.count(3), "1 1000");
        h.isFirst("assertz(a)", "ball error(resource_error(clauses),_1)");
        h.isFirst("asserta(b)", "ball error(resource_error(clauses),_1)");
        House.same("b is not known", h.x.count(4), 1);
        h.isFirst("assertz(3)", "ball error(type_error(callable,3),_1)");
        h.isFirst("assertz((a :- 3))", "ball error(type_error(callable,3),_1)");
        h.isFirst("assertz(true)", "ball error(permission_error(modify,static_procedure,true / 0),_1)");
        h.isFirst("retract(a), asserta(b)", "yes");
        House.same("1000 again", h.x.count(3), 1000);
        h.isFirst("assertz(b)", "ball error(resource_error(clauses),_1)");
        h.isFirst("retractall(a), assertz(b)", "yes");
        House.same("two are left", h.x.count(3), 2);
    }

    /** 46 clauses p(f(..)) of 256 parts, true with them, leave 224 of 12000 ROOM. */
    private static House filled() {
        House h = new House();
        h.x.limit(30000);
        h.first("functor(T, f, 253), between(1, 46, X), assertz(p(T)), X >= 46");
        House.same("46 clauses", h.x.count(3), 46);
        return h;
    }

    /** ROOM: 1 for each part, and for each 8 bytes of a NAME. */
    private static void clauseRoom() {
        String full = "ball error(resource_error(clauses),_1)";
        House h = filled();
        h.isFirst("functor(T, f, 222), assertz(p(T))", full);
        h.isTrue("functor(T, f, 221), assertz(p(T))");
        House.same("12000 exactly", h.x.count(3), 47);
        h.isFirst("assertz(p)", full);
        House.same("not known", h.x.count(4), 1);
        House.same("consult", h.consult("p.") + " " + h.x.count(10), "0 1");
        h.isTrue("retract(p(T)), functor(S, f, 252), assertz(p(S))");
        h.isFirst("assertz(p)", full);
        h.isTrue("retract(p(T)), functor(S, f, 251), assertz(p(S))");
        h.isFirst("assertz(p)", "yes");
        String[] names = {"sevenby", "eightbyt", "fifteenbytesabc", "sixteenbytesabcd", "'" + "a".repeat(250) + "'"};
        int[] more = {0, 1, 1, 2, 31};
        for (int i = 0; i < names.length; i++) {
            int most = 221 - more[i];
            h = filled();
            h.isFirst("functor(T, f, " + (most + 1) + "), arg(1, T, " + names[i] + "), assertz(p(T))", full);
            h.isTrue("functor(T, f, " + most + "), arg(1, T, " + names[i] + "), assertz(p(T))");
            House.same("an atom of " + names[i], h.x.count(3), 47);
            h = filled();
            h.isFirst("functor(T, " + names[i] + ", " + (most + 1) + "), assertz(p(T))", full);
            h.isTrue("functor(T, " + names[i] + ", " + most + "), assertz(p(T))");
            House.same("a compound one of " + names[i], h.x.count(3), 47);
        }
    }

    private static void predicateCount() {
        House h = new House();
        StringBuilder text = new StringBuilder();
        for (int i = 1; i <= 302; i++) {
            text.append("a").append(i).append(". ");
        }
        House.same("302 predicates", h.consult(text.toString()), 300);
        House.same("ERRORS", h.x.count(10) + " " + h.x.count(4) + " " + h.x.count(3), "2 300 300");
        h.isFirst("assertz(b)", "ball error(resource_error(predicates),_1)");
        h.isFirst("dynamic(b/0)", "ball error(resource_error(predicates),_1)");
        h.isFirst("retractall(b)", "ball error(resource_error(predicates),_1)");
        h.isFirst("table(b/0)", "yes");
        h.isFirst("b", "ball error(existence_error(procedure,b / 0),_1)");
        h.isFirst("assertz(b)", "ball error(resource_error(predicates),_1)");
        h.isFirst("assertz(a1), assertz(a300)", "yes");
        h.isFirst("dynamic([a1/0, a300/0]), retractall(a2)", "yes");
        House.same("300", h.x.count(4) + " " + h.x.count(3), "300 301");
        h.isFirst("b", "ball error(existence_error(procedure,b / 0),_1)");
        h.isFirst("retractall(a3), assertz(b)", "ball error(resource_error(predicates),_1)");
    }

    /** The order in which a clause is looked at. */
    /** Known are those of clauses, or dynamic, and those of retractall: what is told to table alone is not. */
    private static void toldToTable() {
        House h = new House();
        h.isAll("table([t/1, (u/0, r/1), d/1])", "yes; no");
        House.same("not known", h.x.count(4) + " " + h.listing("t/1") + " " + h.listing("u/0"), "0 -1 -1");
        h.isAll("t(X)", "ball error(existence_error(procedure,t / 1),_1)");
        h.isAll("call(u)", "ball error(existence_error(procedure,u / 0),_1)");
        House.same("no TABLE", h.x.count(8), 0);
        h.isAll("clause(t(X), B)", "no");
        h.isAll("retract(t(X))", "no");
        h.isAll("current_predicate(P)", "no");
        House.same("not known still", h.x.count(4), 0);
        h.consult("v. t(1). t(1).");
        House.same("known by clauses", h.x.count(4) + " " + h.listing("t/1"), "2 2: t(1).\nt(1).\n");
        h.isAll("t(X)", "X = 1; no");
        House.same("a TABLE", h.x.count(8) + " " + h.x.count(9), "1 1");
        h.isAll("assertz(u), u", "yes; no");
        h.isAll("retractall(r(_)), r(X)", "no");
        h.isAll("dynamic(d/1), d(X)", "no");
        House.same("all are known", h.x.count(4) + " " + h.listing("r/1") + " " + h.listing("d/1"), "5 0:  0: ");
        House.same("four TABLES", h.x.count(8), 4);
        h.isAll("assertz(d(1)), assertz(r(2)), findall(P, current_predicate(P), L)",
                "P = _1, L = [v / 0,t / 1,u / 0,r / 1,d / 1]; no");
        h.isAll("retractall(t(_)), t(X)", "X = 1; no");
        h.isAll("abolish_all_tables, t(X)", "no");
        House.same("known for good", h.x.count(4) + " " + h.listing("t/1"), "5 0: ");
    }

    private static void manyToldToTable() {
        House h = new House();
        for (String name : new String[] {"a", "b", "c", "d", "e", "f"}) {
            h.isAll("between(0, 255, N), table(" + name + "/N), fail", "no");
        }
        House.same("none is known", h.x.count(4), 0);
        House.same("clauses", h.consult("f(1). f(1). a(1, 2). a(1, 2). g. g."), 6);
        h.isAll("f(X)", "X = 1; no");
        h.isAll("a(X, Y)", "X = 1, Y = 2; no");
        h.isAll("g", "yes; yes; no");
        h.isAll("append(X, [b], [a, b]), e(X)", "ball error(existence_error(procedure,e / 1),_1)");
        House.same("three are known", h.x.count(4) + " " + h.x.count(8), "3 2");
        h.x.reset();
        h.consult("f(1). f(1).");
        h.isAll("f(X)", "X = 1; X = 1; no");
        h.isAll("reverse([a, b], X), e(X)", "ball error(existence_error(procedure,e / 1),_1)");
    }

    private static void clauseErrors() {
        error("assertz(X)", "instantiation_error");
        error("assertz((X :- 3))", "instantiation_error");
        error("assertz((3 :- 3))", "type_error(callable,3)");
        error("assertz(4)", "type_error(callable,4)");
        error("assertz((a :- 3))", "type_error(callable,3)");
        error("assertz((a :- b, 3))", "type_error(callable,(b,3))");
        error("assertz((a :- (b ; c -> 3)))", "type_error(callable,(b ; c -> 3))");
        error("assertz((a :- (b *-> 3)))", "type_error(callable,(b *-> 3))");
        yes("assertz((a :- \\+ 3))");
        error("assertz((true :- 3))", "type_error(callable,3)");
        error("assertz((true :- b))", "permission_error(modify,static_procedure,true / 0)");
        error("asserta((a -> b))", "permission_error(modify,static_procedure,(->) / 2)");
        error("assertz('$s'(a, b, c))", "permission_error(modify,static_procedure,'$s' / 3)");
        yes("assertz('$s'(a, b))");
        error("retract(3)", "type_error(callable,3)");
        error("retract((X :- true))", "instantiation_error");
        error("retract((append(_, _, _) :- true))", "permission_error(modify,static_procedure,append / 3)");
        error("retractall(3)", "type_error(callable,3)");
        error("retractall(true)", "permission_error(modify,static_procedure,true / 0)");
        error("clause(X, 3)", "instantiation_error");
        error("clause(3, 3)", "type_error(callable,3)");
        error("clause(true, 3)", "type_error(callable,3)");
        error("clause(true, B)", "permission_error(access,private_procedure,true / 0)");
        error("clause(last(_, _), B)", "permission_error(access,private_procedure,last / 2)");
    }

    private static String compound(String name, int arity) {
        return name + "(" + "a,".repeat(arity - 1) + "a)";
    }

    /** More than 255 arguments: of H, of goals, of what call makes. */
    private static void ruleArity() {
        House h = new House();
        House.same("H of 253", h.consult(compound("h", 253) + " --> []."), 1);
        House.same("H of 254", h.consult(compound("h", 254) + " --> [].") + " " + h.x.count(10), "0 1");
        House.same("a goal of 253", h.consult("a --> " + compound("g", 253) + "."), 1);
        House.same("a goal of 254", h.consult("b --> " + compound("g", 254) + ".") + " " + h.x.count(10), "0 1");
        House.same("call of 253", h.consult("a --> " + compound("call", 253) + "."), 1);
        House.same("call of 254", h.consult("b --> " + compound("call", 254) + ".") + " " + h.x.count(10), "0 1");
        House.same("within others", h.consult("b --> c, (d ; \\+ " + compound("g", 255) + ").") + " " + h.x.count(10), "0 1");
        House.same("in {} it may", h.consult("a --> {" + compound("g", 255) + "}."), 1);
        House.same("b is not known", h.x.count(4), 2);
        error("functor(T, f, 254), phrase(T, [])", "representation_error(max_arity)");
        error("functor(T, f, 253), phrase(T, [])", "existence_error(procedure,f / 255)");
        error("functor(T, call, 254), phrase(T, [])", "representation_error(max_arity)");
        error("functor(T, f, 254), phrase((a, T), [])", "representation_error(max_arity)");
    }

    private static void callArity() {
        error("functor(T, f, 254), call(T, a)", "existence_error(procedure,f / 255)");
        error("functor(T, f, 255), call(T, a)", "representation_error(max_arity)");
        error("functor(T, f, 248), call(T, a, b, c, d, e, f, g)", "existence_error(procedure,f / 255)");
        error("functor(T, f, 249), call(T, a, b, c, d, e, f, g)", "representation_error(max_arity)");
        error("call(f, a, b, c, d, e, f, g)", "existence_error(procedure,f / 7)");
        error("call(f, a, b, c, d, e, f, g, h)", "existence_error(procedure,call / 9)");
        error("call(X, a)", "instantiation_error");
        error("call(3, a)", "type_error(callable,3)");
        error("functor(T, f, 255), call(T)", "existence_error(procedure,f / 255)");
    }

    private static void functor() {
        h().isAll("functor(T, f, 0)", "T = f; no");
        h().isAll("functor(T, 3, 0)", "T = 3; no");
        h().isAll("functor(T, f, 1)", "T = f(_1); no");
        h().isTrue("functor(T, f, 255), functor(T, N, A)");
        h().isAll("functor(T, f, 255), functor(T, N, A), arg(255, T, x), arg(256, T, x)", "no");
        error("functor(T, f, 256)", "representation_error(max_arity)");
        error("functor(T, f, " + MAX + ")", "representation_error(max_arity)");
        error("functor(T, f, -1)", "domain_error(not_less_than_zero,-1)");
        error("functor(T, f, " + MIN + ")", "domain_error(not_less_than_zero," + MIN + ")");
        error("functor(T, N, A)", "instantiation_error");
        error("functor(T, N, 3)", "instantiation_error");
        error("functor(T, f(x), A)", "instantiation_error");
        error("functor(T, f(x), a)", "type_error(integer,a)");
        error("functor(T, f(x), -1)", "domain_error(not_less_than_zero,-1)");
        error("functor(T, f(x), 256)", "representation_error(max_arity)");
        error("functor(T, f(x), 0)", "type_error(atomic,f(x))");
        error("functor(T, f(x), 1)", "type_error(atomic,f(x))");
        error("functor(T, 3, 1)", "type_error(atom,3)");
        error("functor(T, f, f(x))", "type_error(integer,f(x))");
        h().isAll("functor(f(a), f, 2)", "no");
        h().isAll("functor(f(a), g, 1)", "no");
        yes("functor(a, a, 0)");
        yes("functor(3, 3, 0)");
        yes("functor([], [], 0)");
        yes("functor([a], '.', 2)");
        yes("functor({a}, {}, 1)");
    }

    private static void arg() {
        h().isAll("arg(0, f(a), X)", "no");
        h().isAll("arg(1, f(a), X)", "X = a; no");
        h().isAll("arg(2, f(a), X)", "no");
        h().isAll("arg(" + MAX + ", f(a), X)", "no");
        h().isAll("arg(4294967297, f(a), X)", "no");
        h().isAll("arg(1, f(a), b)", "no");
        error("arg(-1, f(a), X)", "domain_error(not_less_than_zero,-1)");
        error("arg(" + MIN + ", f(a), X)", "domain_error(not_less_than_zero," + MIN + ")");
        error("arg(N, T, X)", "instantiation_error");
        error("arg(a, T, X)", "type_error(integer,a)");
        error("arg(-1, T, X)", "instantiation_error");
        error("arg(-1, a, X)", "type_error(compound,a)");
        error("arg(1, 3, X)", "type_error(compound,3)");
        h().isAll("arg(2, [a], X)", "X = []; no");
    }

    private static void univ() {
        h().isAll("f(a, X) =.. [N, A|R]", "X = _1, N = f, A = a, R = [_1]; no");
        h().isAll("a =.. L", "L = [a]; no");
        h().isAll("3 =.. [3]", "yes; no");
        h().isAll("[a] =.. L", "L = ['.',a,[]]; no");
        h().isAll("f(a) =.. [f]", "no");
        h().isAll("f(a) =.. 3", "no");
        h().isAll("f(a) =.. []", "no");
        h().isAll("T =.. [3]", "T = 3; no");
        h().isAll("T =.. [f]", "T = f; no");
        h().isAll("T =.. [f, X]", "T = f(_1), X = _1; no");
        h().isTrue("length(L, 255), T =.. [f|L], functor(T, f, 255)");
        error("length(L, 256), T =.. [f|L]", "representation_error(max_arity)");
        error("length(L, 256), T =.. [3|L]", "type_error(atom,3)");
        error("length(L, 256), T =.. [f(a)|L]", "type_error(atomic,f(a))");
        error("T =.. L", "instantiation_error");
        error("T =.. [a|L]", "instantiation_error");
        error("T =.. [a|b]", "type_error(list,[a|b])");
        error("T =.. a", "type_error(list,a)");
        error("T =.. []", "domain_error(non_empty_list,[])");
        error("T =.. [X]", "instantiation_error");
        error("T =.. [X, a]", "instantiation_error");
        error("T =.. [f(a)]", "type_error(atomic,f(a))");
        error("T =.. [f(a), b]", "type_error(atomic,f(a))");
        error("T =.. [3, b]", "type_error(atom,3)");
    }

    private static void is(String expression, String want) {
        h().isAll("X is " + expression, "X = " + want + "; no");
    }

    private static void overflow(String expression) {
        error("X is " + expression, "evaluation_error(int_overflow)");
    }

    private static void undefined(String expression) {
        error("X is " + expression, "evaluation_error(undefined)");
    }

    /** 64 bits, beyond: int_overflow. */
    private static void sums() {
        is("9223372036854775806 + 1", MAX);
        overflow(MAX + " + 1");
        overflow("1 + " + MAX);
        overflow(MIN + " + -1");
        is(MIN + " + " + MAX, "-1");
        is("-9223372036854775807 - 1", MIN);
        overflow(MIN + " - 1");
        overflow("0 - " + MIN);
        is("-1 - " + MIN, MAX);
        overflow(MAX + " - -1");
        is("-(9223372036854775807)", "-9223372036854775807");
        overflow("-(" + MIN + ")");
        is("+(" + MIN + ")", MIN);
        is("abs(-9223372036854775807)", MAX);
        overflow("abs(" + MIN + ")");
        is("4611686018427387904 * -2", MIN);
        overflow("4611686018427387904 * 2");
        is("3037000499 * 3037000499", "9223372030926249001");
        overflow("3037000500 * 3037000500");
        overflow(MIN + " * -1");
        overflow("-1 * " + MIN);
        is(MIN + " * 1", MIN);
        is("0 * " + MIN, "0");
        overflow("4294967296 * 4294967296");
        is("\\ " + MAX, MIN);
        is("1152921504606846975 + 1", "1152921504606846976");
        is("1152921504606846976 - 1", "1152921504606846975");
        is("-1152921504606846976 - 1", "-1152921504606846977");
    }

    private static void divisions() {
        String[] by = {"//", "/", "mod", "rem", "div"};
        for (String op : by) {
            error("X is 1 " + op + " 0", "evaluation_error(zero_divisor)");
            error("X is 0 " + op + " 0", "evaluation_error(zero_divisor)");
        }
        String[][] rows = {{"7", "2", "3", "1", "1", "3"}, {"-7", "2", "-3", "1", "-1", "-4"}, {"7", "-2", "-3", "-1", "1", "-4"},
            {"-7", "-2", "3", "-1", "-1", "3"}, {"6", "3", "2", "0", "0", "2"}, {"-6", "3", "-2", "0", "0", "-2"}};
        for (String[] row : rows) {
            is(row[0] + " // " + row[1], row[2]);
            is(row[0] + " mod " + row[1], row[3]);
            is(row[0] + " rem " + row[1], row[4]);
            is(row[0] + " div " + row[1], row[5]);
        }
        is("6 / 3", "2");
        is("-6 / 3", "-2");
        undefined("7 / 2");
        undefined("1 / 2");
        is("0 / 5", "0");
        overflow(MIN + " // -1");
        overflow(MIN + " / -1");
        overflow(MIN + " div -1");
        is(MIN + " mod -1", "0");
        is(MIN + " rem -1", "0");
        is(MIN + " // 1", MIN);
        is(MIN + " div 2", "-4611686018427387904");
        is(MAX + " mod " + MIN, "-1");
        is(MAX + " div " + MIN, "-1");
        is(MIN + " mod " + MAX, "9223372036854775806");
        is("1 div " + MIN, "-1");
        is("-1 // 2", "0");
        is("-1 div 2", "-1");
    }

    /** << >> by 0 .. 63, else undefined; << overflows as * does. */
    private static void shifts() {
        is("5 << 0", "5");
        is("1 << 62", "4611686018427387904");
        overflow("1 << 63");
        is("-1 << 63", MIN);
        overflow("-2 << 63");
        overflow("2 << 62");
        is("-2 << 62", MIN);
        overflow("-3 << 62");
        is("0 << 63", "0");
        undefined("1 << 64");
        undefined("1 << -1");
        undefined("0 << 64");
        undefined("1 << " + MAX);
        undefined("1 << 4294967296");
        is("5 >> 0", "5");
        is(MIN + " >> 63", "-1");
        is(MAX + " >> 62", "1");
        is(MAX + " >> 63", "0");
        is("-5 >> 1", "-3");
        undefined("1 >> 64");
        undefined("1 >> -1");
        undefined("1 >> " + MIN);
    }

    /** ^ **: exponent below 0: 1 and -1 alone; 0: zero_divisor; else type_error(float, base). */
    private static void powers() {
        for (String op : new String[] {"^", "**"}) {
            is("2 " + op + " 62", "4611686018427387904");
            overflow("2 " + op + " 63");
            is("-2 " + op + " 63", MIN);
            overflow("-2 " + op + " 64");
            is("10 " + op + " 18", "1000000000000000000");
            overflow("10 " + op + " 19");
            is("3 " + op + " 39", "4052555153018976267");
            overflow("3 " + op + " 40");
            is("0 " + op + " 0", "1");
            is("5 " + op + " 0", "1");
            is("0 " + op + " " + MAX, "0");
            is("1 " + op + " " + MAX, "1");
            is("-1 " + op + " " + MAX, "-1");
            overflow("2 " + op + " " + MAX);
            is("1 " + op + " -1", "1");
            is("1 " + op + " " + MIN, "1");
            is("-1 " + op + " -1", "-1");
            is("-1 " + op + " -2", "1");
            is("-1 " + op + " " + MIN, "1");
            error("X is 0 " + op + " -1", "evaluation_error(zero_divisor)");
            error("X is 2 " + op + " -1", "type_error(float,2)");
            error("X is -2 " + op + " -1", "type_error(float,-2)");
            error("X is " + MIN + " " + op + " " + MIN, "type_error(float," + MIN + ")");
            is(MIN + " " + op + " 1", MIN);
            overflow(MIN + " " + op + " 2");
        }
    }

    private static void otherNumbers() {
        is("msb(1)", "0");
        is("msb(2)", "1");
        is("msb(3)", "1");
        is("msb(4611686018427387903)", "61");
        is("msb(" + MAX + ")", "62");
        undefined("msb(0)");
        undefined("msb(-1)");
        undefined("msb(" + MIN + ")");
        is("sign(" + MIN + ")", "-1");
        is("sign(0)", "0");
        is("sign(" + MAX + ")", "1");
        is("min(" + MIN + ", " + MAX + ")", MIN);
        is("max(" + MIN + ", " + MAX + ")", MAX);
        is("gcd(0, 0)", "0");
        is("gcd(0, -5)", "5");
        is("gcd(12, 18)", "6");
        is("gcd(" + MIN + ", 6)", "2");
        overflow("gcd(" + MIN + ", 0)");
        overflow("gcd(0, " + MIN + ")");
        overflow("gcd(" + MIN + ", " + MIN + ")");
        is("gcd(" + MIN + ", -1)", "1");
        is(MIN + " /\\ " + MAX, "0");
        is(MIN + " \\/ " + MAX, "-1");
        is("xor(" + MIN + ", -1)", MAX);
        error("X is Y", "instantiation_error");
        error("X is a", "type_error(evaluable,a / 0)");
        error("X is []", "type_error(evaluable,[] / 0)");
        error("X is foo(Y)", "type_error(evaluable,foo / 1)");
        error("X is Y + foo", "instantiation_error");
        error("X is foo + Y", "type_error(evaluable,foo / 0)");
        error("X is 1 // 0 + Y", "evaluation_error(zero_divisor)");
        error("X is mod(1)", "type_error(evaluable,(mod) / 1)");
        error("X is abs(1, 2)", "type_error(evaluable,abs / 2)");
        error("X is xor", "type_error(evaluable,xor / 0)");
        error("1 =:= Y", "instantiation_error");
        error("Y < foo", "instantiation_error");
        h().isAll(MIN + " < " + MAX + ", " + MAX + " > " + MIN + ", " + MAX + " =:= " + MAX + ", " + MIN + " =\\= " + MAX, "yes; no");
        h().isAll(MAX + " =< " + MIN, "no");
        h().isAll(MIN + " >= " + MAX, "no");
    }

    /** An atom has at most 250 bytes. */
    private static void longAtoms() {
        House h = new House();
        String half = "a".repeat(125);
        h.isTrue("atom_concat(" + half + ", " + half + ", X), atom_length(X, 250)");
        h.isFirst("atom_concat(" + half + ", b" + half + ", X)", "ball error(resource_error(atom),_1)");
        House.same("behind its WORK", h.x.count(5), 1 + 251 + 4);
        h.isFirst("atom_concat(" + half + ", b" + half + ", other)", "ball error(resource_error(atom),_1)");
        h.isTrue("length(L, 250), maplist(=(0'a), L), atom_codes(X, L), atom_length(X, 250)");
        h.isFirst("length(L, 251), maplist(=(0'a), L), atom_codes(X, L)", "ball error(resource_error(atom),_1)");
        h.isTrue("length(L, 250), maplist(=(a), L), atom_chars(X, L), atom_length(X, 250)");
        h.isFirst("length(L, 251), maplist(=(a), L), atom_chars(X, L)", "ball error(resource_error(atom),_1)");
        h.isTrue("length(L, 124), maplist(=(1), L), term_to_atom(L, X), atom_length(X, 249)");
        h.isFirst("length(L, 124), maplist(=(1), L), term_to_atom(f(L), X)", "ball error(resource_error(atom),_1)");
        h.isTrue("length(L, 300), maplist(=(32), L), append(L, \"7\", M), number_codes(N, M), N =:= 7");
        h.isFirst("atom_codes(X, []), atom_length(X, N)", "X = '', N = 0");
        h.isFirst("sub_atom('', B, L, A, S)", "B = 0, L = 0, A = 0, S = ''");
        h.isAll("atom_concat(X, Y, '')", "X = '', Y = ''; no");
        h.isFirst("atom_concat('', '', X), atom_chars(Y, X)", "ball error(type_error(list,''),_1)");
    }

    /** Codes 1 .. 127. */
    private static void characterCodes() {
        for (String bad : new String[] {"0", "128", "-1", "256", "353", "4294967393", MAX, MIN}) {
            error("atom_codes(X, [97, " + bad + "])", "representation_error(character_code)");
            error("char_code(X, " + bad + ")", "representation_error(character_code)");
            error("number_codes(X, [" + bad + "])", "representation_error(character_code)");
        }
        h().isAll("atom_codes(X, [1, 127])", "X = '\\x01\\\\x7f\\'; no");
        h().isAll("char_code(X, 1), char_code(Y, 127)", "X = '\\x01\\', Y = '\\x7f\\'; no");
        h().isAll("char_code(a, 98)", "no");
        h().isAll("char_code(a, 0)", "no");
        h().isAll("atom_codes(abc, [97|T])", "T = [98,99]; no");
        h().isAll("atom_codes(abc, [0])", "no");
    }

    private static void textErrors() {
        error("atom_length(X, a)", "instantiation_error");
        error("atom_length(f(a), a)", "type_error(atomic,f(a))");
        error("atom_length(a, a)", "type_error(integer,a)");
        error("atom_length(a, -1)", "domain_error(not_less_than_zero,-1)");
        h().isAll("atom_length(a, 0)", "no");
        error("atom_concat(X, Y, Z)", "instantiation_error");
        error("atom_concat(a, Y, Z)", "instantiation_error");
        error("atom_concat(X, b, Z)", "instantiation_error");
        error("atom_concat(f(a), f(b), Z)", "type_error(atomic,f(a))");
        error("atom_concat(X, f(b), Z)", "type_error(atomic,f(b))");
        error("atom_concat(X, Y, f(c))", "type_error(atomic,f(c))");
        error("sub_atom(X, a, b, c, 1)", "instantiation_error");
        error("sub_atom(f(x), a, b, c, 1)", "type_error(atomic,f(x))");
        error("sub_atom(abc, a, b, c, 1)", "type_error(integer,a)");
        error("sub_atom(abc, B, b, c, 1)", "type_error(integer,b)");
        error("sub_atom(abc, B, L, c, 1)", "type_error(integer,c)");
        error("sub_atom(abc, B, L, R, 1)", "type_error(atom,1)");
        h().isAll("sub_atom(abc, -1, L, R, S)", "no");
        h().isAll("sub_atom(abc, 3, L, R, S)", "L = 0, R = 0, S = ''; no");
        h().isAll("sub_atom(abc, 4, L, R, S)", "no");
        h().isAll("sub_atom(123, 1, 1, R, S)", "R = 1, S = '2'; no");
        error("atom_codes(X, L)", "instantiation_error");
        error("atom_codes(X, [a|L])", "instantiation_error");
        error("atom_codes(X, [a|b])", "type_error(list,[a|b])");
        error("atom_codes(X, [Y, a])", "instantiation_error");
        error("atom_codes(X, [a, Y])", "type_error(integer,a)");
        error("atom_chars(X, [1, Y])", "type_error(character,1)");
        error("atom_chars(X, [ab])", "type_error(character,ab)");
        error("atom_chars(X, [''])", "type_error(character,'')");
        error("char_code(X, Y)", "instantiation_error");
        error("char_code(ab, b)", "type_error(character,ab)");
        error("char_code('', X)", "type_error(character,'')");
        error("char_code(a, b)", "type_error(integer,b)");
        error("char_code(X, b)", "type_error(integer,b)");
        error("number_codes(a, L)", "type_error(integer,a)");
        error("number_codes(X, [])", "syntax_error(illegal_number)");
        error("number_codes(X, \"" + "9223372036854775808" + "\")", "syntax_error(illegal_number)");
        h().isAll("number_codes(X, \"" + MAX + "\")", "X = " + MAX + "; no");
        h().isAll("atom_number('" + MIN + "', X)", "X = " + MIN + "; no");
        h().isAll("atom_number('9223372036854775808', X)", "no");
        h().isAll("atom_number('', X)", "no");
        h().isAll("atom_number(' 1', X)", "X = 1; no");
        h().isAll("atom_number('1 ', X)", "no");
        h().isAll("atom_number('- 1', X)", "no");
        error("upcase_atom(X, Y)", "instantiation_error");
        error("term_to_atom(X, Y)", "instantiation_error");
        error("term_to_atom(X, f(a))", "type_error(atomic,f(a))");
        error("term_to_atom(X, 'a b')", "syntax_error(2)");
        error("term_to_atom(X, 'f(a')", "syntax_error(3)");
        error("term_to_atom(X, '')", "syntax_error(0)");
        error("put_char(X)", "instantiation_error");
        error("put_char('')", "type_error(character,'')");
        error("put_char(f(a))", "type_error(character,f(a))");
        error("tab(X)", "instantiation_error");
        error("tab(1 // 0)", "evaluation_error(zero_divisor)");
        h().isWritten("tab(0), tab(-1), tab(" + MIN + "), write(a)", "a");
    }

    private static void operatorErrors() {
        error("op(X, Y, Z)", "instantiation_error");
        error("op(a, Y, Z)", "type_error(integer,a)");
        error("op(-1, Y, Z)", "domain_error(operator_priority,-1)");
        error("op(1201, Y, Z)", "domain_error(operator_priority,1201)");
        error("op(4294967296, Y, Z)", "domain_error(operator_priority,4294967296)");
        error("op(1200, Y, Z)", "instantiation_error");
        error("op(1200, 1, Z)", "type_error(atom,1)");
        error("op(1200, yfy, Z)", "domain_error(operator_specifier,yfy)");
        error("op(1200, xf, Z)", "domain_error(operator_specifier,xf)");
        error("op(1200, yf, Z)", "domain_error(operator_specifier,yf)");
        error("op(1200, xfx, Z)", "instantiation_error");
        error("op(1200, xfx, 1)", "type_error(list,1)");
        error("op(1200, xfx, f(a))", "type_error(list,f(a))");
        error("op(1200, xfx, [a|Z])", "instantiation_error");
        error("op(1200, xfx, [a|b])", "type_error(list,[a|b])");
        error("op(1200, xfx, [Z])", "instantiation_error");
        error("op(1200, xfx, [1])", "type_error(atom,1)");
        error("op(1200, xfx, ',')", "permission_error(modify,operator,',')");
        error("op(0, xfx, [','])", "permission_error(modify,operator,',')");
        error("op(1200, xfx, {})", "permission_error(create,operator,{})");
        error("op(1200, xfx, [[]])", "permission_error(create,operator,[])");
        error("op(0, xfx, '|')", "permission_error(create,operator,'|')");
        House h = new House();
        h.isAll("op(200, xfy, [aa, 1])", "ball error(type_error(atom,1),_1)");
        House.same("nothing is told then", h.x.count(7), 44);
        h.isAll("op(200, xfy, [])", "yes; no");
        House.same("[]: of none", h.x.count(7), 44);
        h.isAll("op(1200, xfx, a1), op(0, xfx, a1), op(1, fy, b1)", "yes; no");
        House.same("strength 0: none", h.x.count(7), 45);
    }

    /** One told anew keeps its place, a new one comes behind all, one that goes moves the rest up. */
    private static void operatorRow() {
        House h = new House();
        h.isAll("findall(N, current_op(_, _, N), [A, B, C, D, E, F|_])",
                "N = _1, A = :-, B = -->, C = :-, D = ?-, E = dynamic, F = table; no");
        h.isAll("findall(N, current_op(200, _, N), L)", "N = _1, L = [^,**,-,+,\\]; no");
        h.isAll("op(200, yfx, -->), findall(N, current_op(_, _, N), [A, B, C|_])", "N = _1, A = :-, B = -->, C = :-; no");
        h.isAll("current_op(P, T, -->)", "P = 200, T = yfx; no");
        h.isAll("op(0, xfx, :-), findall(N, current_op(_, _, N), [A, B, C|_])", "N = _1, A = -->, B = :-, C = ?-; no");
        h.isTrue("op(200, xfx, new), findall(N, current_op(_, _, N), L), last(L, X)");
        h.isAll("findall(N, current_op(200, _, N), L)", "N = _1, L = [-->,^,**,-,+,\\,new]; no");
        h.isAll("op(300, fy, new), findall(P - T, current_op(P, T, new), L)", "P = _1, T = _1, L = [200 - xfx,300 - fy]; no");
        h.isAll("op(0, yfx, new), findall(P - T, current_op(P, T, new), L)", "P = _1, T = _1, L = [300 - fy]; no");
        h.isAll("op(200, xfx, again), op(200, xfy, again), findall(P - T, current_op(P, T, again), L)",
                "P = _1, T = _1, L = [200 - xfy]; no");
        // Place after place, as the row is then: what moves up to the place that was tried is not met.
        h.isAll("current_op(1150, fx, N), op(0, fx, dynamic)", "N = dynamic; no");
    }

    /** Above 150 operators: resource_error(operators), last. */
    private static void operatorCount() {
        House h = new House();
        h.first("between(1, 105, X), atom_concat(o, X, N), op(200, xfy, N), X >= 105");
        House.same("149", h.x.count(7), 149);
        h.isFirst("op(200, xfy, p)", "yes");
        House.same("150", h.x.count(7), 150);
        h.isFirst("op(200, xfy, q)", "ball error(resource_error(operators),_1)");
        h.isFirst("op(200, fy, p)", "ball error(resource_error(operators),_1)");
        h.isFirst("op(200, xfy, [q, 1])", "ball error(type_error(atom,1),_1)");
        h.isFirst("op(200, xfy, [q, ','])", "ball error(permission_error(modify,operator,','),_1)");
        h.isFirst("op(1201, xfy, q)", "ball error(domain_error(operator_priority,1201),_1)");
        House.same("150 still", h.x.count(7), 150);
        h.isFirst("op(300, yfx, p), op(0, xfy, q), op(200, xfy, [])", "yes");
        h.isFirst("op(0, xfx, p), op(200, fy, q)", "yes");
        House.same("150 again", h.x.count(7), 150);
        h.isFirst("op(200, xfy, p)", "ball error(resource_error(operators),_1)");
    }

    /** Above 100 K that were ever set. */
    private static void keyCount() {
        House h = new House();
        h.isFirst("b_setval(b1, 1), fail", "no");
        h.first("between(1, 98, X), atom_concat(k, X, N), nb_setval(N, X), X >= 98");
        h.isFirst("nb_setval(last, 1)", "yes");
        h.isFirst("nb_setval(more, 1)", "ball error(resource_error(values),_1)");
        h.isFirst("b_setval(more, 1)", "ball error(resource_error(values),_1)");
        h.isFirst("nb_setval(b1, 1), nb_setval(k1, 2), b_setval(k2, 3), b_getval(k2, X)", "X = 3");
        h.isFirst("nb_getval(k1, X), nb_getval(k98, Y), nb_getval(last, Z)", "X = 2, Y = 98, Z = 1");
        h.isFirst("nb_getval(more, X)", "ball error(existence_error(variable,more),_1)");
        h.isFirst("nb_setval(X, 1)", "ball error(instantiation_error,_1)");
        h.isFirst("nb_setval(f(a), 1)", "ball error(type_error(atom,f(a)),_1)");
        h.x.reset();
        h.isFirst("nb_setval(more, 1), nb_getval(more, X)", "X = 1");
    }

    /** (nb) 4000 ROOM of all kept. */
    private static void valueRoom() {
        House h = new House();
        h.x.limit(30000);
        h.isTrue("length(L, 1999), nb_setval(k, L)");
        h.isFirst("nb_setval(one, 1)", "yes");
        h.isFirst("nb_setval(two, 2)", "ball error(resource_error(values),_1)");
        h.isFirst("nb_getval(two, X)", "ball error(existence_error(variable,two),_1)");
        h.isFirst("nb_setval(one, f(1))", "ball error(resource_error(values),_1)");
        h.isFirst("nb_getval(one, X)", "X = 1");
        h.isFirst("nb_setval(one, sevenby)", "yes");
        h.isFirst("nb_setval(one, eightbyt)", "ball error(resource_error(values),_1)");
        h.isTrue("length(L, 2000), b_setval(b, L)");
        h.isFirst("nb_setval(k, 1), nb_setval(one, f(1)), nb_setval(two, 2), nb_getval(two, X)", "X = 2");
        h.isTrue("length(L, 1998), nb_setval(k, L)");
        h.isFirst("length(L, 1999), nb_setval(k, L), L = x", "ball error(resource_error(values),_1)");
        h.isTrue("nb_getval(k, L), length(L, N), L = [_|_], !, N =:= 1998");
    }

    /** 1 more for each 8 bytes of a NAME. */
    private static void roomOfNames() {
        String full = "ball error(resource_error(values),_1)";
        String[] names = {"sevenby", "eightbyt", "fifteenbytesabc", "sixteenbytesabcd"};
        int[] more = {0, 1, 1, 2};
        for (int i = 0; i < names.length; i++) {
            House h = new House();
            // A list of n elements that are variables has 2 * n + 1 ROOM; functor makes what is odd even.
            h.isTrue("length(L, 1990), nb_setval(k, L)");
            int left = 4000 - 3981 - more[i];
            h.isFirst("functor(T, " + names[i] + ", " + left + "), nb_setval(n, T), T = x", full);
            h.isTrue("functor(T, " + names[i] + ", " + (left - 1) + "), nb_setval(n, T)");
            h.isFirst("functor(T, f, " + left + "), arg(1, T, " + names[i] + "), nb_setval(n, T), T = x", full);
            h.isTrue("functor(T, f, " + (left - 1) + "), arg(1, T, " + names[i] + "), nb_setval(n, T)");
            h.isFirst("nb_setval(last, 1)", full);
        }
    }

    /** A value that b stands over is to stand again: meanwhile it is kept, too. */
    private static void roomBeneath() {
        String full = "ball error(resource_error(values),_1)";
        House h = new House();
        h.isTrue("length(L, 1000), nb_setval(k, L)");
        h.isFirst("b_setval(k, 1), length(L, 1000), nb_setval(j, L), L = x", full);
        h.isFirst("nb_getval(j, X)", "ball error(existence_error(variable,j),_1)");
        h.isTrue("b_setval(k, 1), length(L, 999), nb_setval(j, L)");
        h.isFirst("nb_setval(one, 1)", full);
        h.isFirst("b_setval(k, 1), b_setval(k, 2), b_setval(j, 3), nb_setval(one, 1)", full);
        h.isTrue("nb_getval(k, L), length(L, M), M =:= 1000, nb_getval(j, J), length(J, N), N =:= 999");
        h.isFirst("nb_setval(j, 1), b_setval(j, 2), b_setval(j, 3), length(L, 999), nb_setval(i, L), L = x", full);
        h.isTrue("b_setval(j, 2), b_setval(j, 3), length(L, 998), nb_setval(i, L), nb_setval(one, 1)");
        h.isFirst("nb_setval(two, 1)", full);
    }

    /** What nb puts over a value of b goes when that is undone, and its ROOM with it. */
    private static void roomWhenOver() {
        String full = "ball error(resource_error(values),_1)";
        House h = new House();
        h.isTrue("length(L, 1000), nb_setval(k, L)");
        String most = "b_setval(k, 1), length(L, 999), nb_setval(k, L)";
        h.isFirst(most + ", nb_setval(one, 1)", full);
        h.isTrue(most + ", nb_setval(k, small), nb_setval(one, 1)");
        h.isFirst("nb_setval(one, f(" + "1,".repeat(99) + "1)), nb_setval(one, 1)", "yes");
        String over = most.replace("999", "998");
        h.isTrue("length(M, 998), (" + over + ", fail ; nb_setval(j, M))");
        h.isFirst("nb_setval(two, f(1))", full);
        h.isTrue("nb_setval(j, 1), catch((" + over + ", throw(x)), x, true), length(M, 998), nb_setval(j, M)");
        h.isFirst("nb_setval(j, 1), " + over + ", throw(x)", "ball x");
        h.isTrue("length(M, 998), nb_setval(j, M)");
        h.isFirst("nb_setval(j, 1), " + over + ", L = x", "no");
        h.isTrue("length(M, 998), nb_setval(j, M)");
        h.isTrue("nb_setval(j, 1), " + over);
        h.consult(":- length(M, 998), nb_setval(j, M).");
        House.same("over by :- G", h.x.count(11), 0);
        h.isFirst("nb_setval(j, 1), " + over + ", b_setval(k, 2), nb_setval(k, 3)", full);
        h.isTrue(over.replace("998", "997") + ", b_setval(k, 2), nb_setval(k, 3), b_getval(k, X), X =:= 3");
        House.same("over by what can't stand", h.query("a b"), -3);
        h.isTrue("length(M, 998), nb_setval(j, M), nb_getval(k, L), length(L, N), N =:= 1000");
        h.isFirst("nb_setval(two, f(1))", full);
        h.x.reset();
        h.isTrue("length(L, 1999), nb_setval(k, L)");
    }

    /** b: undone on backtracking and when the query is over, whatever nb put there since. */
    private static void backtrackedValues() {
        House h = new House();
        h.isFirst("nb_setval(k, first)", "yes");
        h.isAll("(b_setval(k, 2), b_getval(k, X) ; b_getval(k, X))", "X = 2; X = first; no");
        h.isAll("(b_setval(k, 2), nb_setval(k, 3), nb_getval(k, X) ; nb_getval(k, X))", "X = 3; X = first; no");
        h.isAll("b_setval(k, 2), b_setval(k, 3), b_getval(k, X)", "X = 3; no");
        h.isAll("nb_getval(k, X)", "X = first; no");
        h.query("b_setval(k, 2), nb_setval(k, 3)");
        h.x.next();
        h.isAll("nb_getval(k, X)", "X = first; no");
        h.query("b_setval(k, 2), nb_setval(k, 3)");
        h.x.next();
        h.consult(":- nb_getval(k, X), write(X).");
        House.same("over by :- G", h.out(), "first");
        h.isAll("b_setval(k, 2), nb_setval(k, 3), throw(x)", "ball x");
        h.isAll("nb_getval(k, X)", "X = first; no");
        h.x.limit(100);
        h.isAll("b_setval(k, 2), nb_setval(k, 3), length(L, 1000)", "spent");
        h.isAll("nb_getval(k, X)", "X = first; no");
        h.isAll("nb_setval(k, 4), b_setval(k, 5), nb_getval(k, X)", "X = 5; no");
        h.isAll("nb_getval(k, X)", "X = 4; no");
        h.isAll("catch((b_setval(k, 5), throw(x)), x, true), b_getval(k, X)", "X = 4; no");
        h.isAll("\\+ \\+ b_setval(k, 5), b_getval(k, X)", "X = 4; no");
        h.isAll("findall(X, (b_setval(k, 5), b_getval(k, X)), L), b_getval(k, Y)", "X = _1, L = [5], Y = 4; no");
        h.isAll("b_setval(n, 1), fail ; nb_getval(n, X)", "ball error(existence_error(variable,n),_1)");
        h.isAll("b_setval(n, f(Y)), Y = 1, nb_getval(n, X)", "Y = 1, X = f(1); no");
        h.isAll("nb_setval(n, f(Y)), Y = 1, nb_getval(n, X)", "Y = 1, X = f(_1); no");
    }

    private static void lengths() {
        error("length(L, a)", "type_error(integer,a)");
        error("length(a, b)", "type_error(integer,b)");
        error("length(L, -1)", "domain_error(not_less_than_zero,-1)");
        error("length(a, -1)", "domain_error(not_less_than_zero,-1)");
        error("length(a, N)", "type_error(list,a)");
        error("length([a|b], 1)", "type_error(list,[a|b])");
        h().isAll("length([], N)", "N = 0; no");
        h().isAll("length(L, 0)", "L = []; no");
        h().isAll("length([a], 0)", "no");
        h().isAll("length([a|T], 0)", "no");
        h().isAll("length([a|T], 1)", "T = []; no");
        h().isAll("length(L, " + MAX + ")", "spent");
        h().isAll("length(L, N), N >= 2, !", "L = [_1,_2], N = 2; no");
    }

    private static void betweens() {
        error("between(X, Y, Z)", "instantiation_error");
        error("between(a, Y, Z)", "type_error(integer,a)");
        error("between(1, Y, Z)", "instantiation_error");
        error("between(1, b, c)", "type_error(integer,b)");
        error("between(1, 2, c)", "type_error(integer,c)");
        h().isAll("between(1, 1, X)", "X = 1; no");
        h().isAll("between(2, 1, X)", "no");
        h().isAll("between(1, 3, 1)", "yes; no");
        h().isAll("between(1, 3, 3)", "yes; no");
        h().isAll("between(1, 3, 0)", "no");
        h().isAll("between(1, 3, 4)", "no");
        h().isAll("between(9223372036854775806, " + MAX + ", X)", "X = 9223372036854775806; X = " + MAX + "; no");
        h().isAll("between(" + MIN + ", -9223372036854775807, X)", "X = " + MIN + "; X = -9223372036854775807; no");
        h().isAll("between(" + MIN + ", " + MAX + ", 0)", "yes; no");
    }

    private static void sorts() {
        h().isAll("sort([], L), msort([], M), keysort([], K)", "L = [], M = [], K = []; no");
        h().isAll("sort([a], L)", "L = [a]; no");
        h().isAll("sort([a, a, a], L), msort([a, a, a], M)", "L = [a], M = [a,a,a]; no");
        h().isAll("sort([f(X), Y, 1, a, \"b\", -1, 'B', f(X, X), g(1)], L)",
                "X = _1, Y = _1, L = [_1,-1,1,'B',a,f(_2),g(1),[98],f(_2,_2)]; no");
        h().isAll("keysort([b - 1, a - 3, b - 0, a - 2], L)", "L = [a - 3,a - 2,b - 1,b - 0]; no");
        error("sort(L, M)", "instantiation_error");
        error("sort([a|L], M)", "instantiation_error");
        error("sort(a, M)", "type_error(list,a)");
        error("keysort([a - 1|L], M)", "instantiation_error");
        error("keysort([a - 1, X, b], M)", "instantiation_error");
        error("keysort([a - 1, b, X], M)", "type_error(pair,b)");
        error("keysort([-(1)], M)", "type_error(pair,- 1)");
        h().isAll("sort([c, a], [a, b])", "no");
    }

    private static void indicators() {
        h().isAll("dynamic(a/0), dynamic(b/255), dynamic([])", "yes; no");
        error("dynamic(b/256)", "type_error(predicate_indicator,b / 256)");
        error("dynamic(b/(-1))", "type_error(predicate_indicator,b / -1)");
        error("dynamic(X)", "instantiation_error");
        error("dynamic(X/1)", "instantiation_error");
        error("dynamic(a/X)", "instantiation_error");
        error("dynamic(a)", "type_error(predicate_indicator,a)");
        error("dynamic(a/b)", "type_error(predicate_indicator,a / b)");
        error("dynamic(1/1)", "type_error(predicate_indicator,1 / 1)");
        error("dynamic((a/0, X))", "instantiation_error");
        error("dynamic([a/0|b])", "type_error(predicate_indicator,b)");
        error("dynamic(append/3)", "permission_error(modify,static_procedure,append / 3)");
        error("table(call/1)", "permission_error(modify,static_procedure,call / 1)");
        error("table(x/256)", "type_error(predicate_indicator,x / 256)");
        House h = new House();
        h.isAll("dynamic([p/1, (q/1, r/1), [[s/1]], 3, t/1])", "ball error(type_error(predicate_indicator,3),_1)");
        House.same("in order, up to what is none", h.x.count(4), 4);
        h.isAll("current_predicate(foo/X)", "no");
        h.isAll("current_predicate(p/1)", "no");
        h.isAll("assertz(p(1)), current_predicate(p/X)", "X = 1; no");
        h.isAll("current_predicate(foo(x)/bar)", "no");
        h.isAll("assertz(q(1)), assertz(q(2)), assertz(r(1)), retract(q(1)), retract(r(1)), findall(P, current_predicate(P), L)",
                "P = _1, L = [p / 1,q / 1]; no");
        h.isAll("retract(q(2)), findall(P, current_predicate(P), L)", "P = _1, L = [p / 1]; no");
        h.isAll("assertz(r(2)), findall(P, current_predicate(P), L), r(X)", "P = _1, L = [p / 1,r / 1], X = 2; no");
        h.isAll("current_predicate(P), assertz(new)", "P = p / 1; P = r / 1; P = new / 0; no");
        h.isAll("current_predicate(3)", "ball error(type_error(predicate_indicator,3),_1)");
        h.isAll("current_predicate(p)", "ball error(type_error(predicate_indicator,p),_1)");
    }

    /** A variable is older than all that are made later. */
    private static void age() {
        yes("f(_A, _B) = f(_X, _Y), _X @< _Y");
        yes("_X = f(_A), copy_term(_X, f(_B)), _A @< _B");
        yes("copy_term(f(_A, _B), f(_C, _D)), _A @< _B, _B @< _C, _C @< _D");
        yes("length(_L, 2), _L = [_A, _B], _A @< _B");
        yes("functor(_T, f, 2), arg(1, _T, _A), arg(2, _T, _B), _A @< _B");
        yes("term_to_atom(_T, 'f(B, A)'), _T = f(_X, _Y), _X @< _Y");
        yes("_B = _B, _A = _A, _B @< _A");
        yes("_A = _B, _C = _B, _A == _C");
        yes("findall(_X, member(_X, [_, _]), [_A, _B]), _A @< _B");
    }

    private static void comparing() {
        String[] pairs = {"_A", "1", "-1", "a", "'B'", "f(a)", "f(a, b)", "1152921504606846976", "[a]", "abc", "ab"};
        for (String one : pairs) {
            yes(one + " == " + one + ", " + one + " @=< " + one + ", " + one + " @>= " + one + ", compare(=, " + one + ", " + one + ")");
            h().isAll(one + " \\== " + one, "no");
            h().isAll(one + " @< " + one, "no");
            h().isAll(one + " @> " + one, "no");
        }
        String[] rising = {"_A", MIN, "-1152921504606846977", "-1", "0", "1", "2", "1152921504606846976", MAX, "''", "'B'", "a",
            "ab", "abc", "abd", "ac", "aca", "az", "b", "ba", "z", "f(a)", "f(b)", "ff(a)", "g(a)", "[a]", "a(a, b)", "f(a, a)",
            "f(a, b)", "a(1, 2, 3)"};
        for (int i = 0; i + 1 < rising.length; i++) {
            String one = rising[i];
            String two = rising[i + 1];
            yes(one + " @< " + two + ", " + one + " @=< " + two + ", " + one + " \\== " + two + ", compare(<, " + one + ", " + two + ")");
            yes(two + " @> " + one + ", " + two + " @>= " + one + ", " + two + " \\== " + one + ", compare(>, " + two + ", " + one + ")");
            h().isAll(one + " @> " + two + " ; " + one + " @>= " + two + " ; " + one + " == " + two, "no");
            h().isAll(two + " @< " + one + " ; " + two + " @=< " + one + " ; " + two + " == " + one, "no");
        }
    }

    private static void terms() {
        h().isAll("T =.. [f, a, b, c]", "T = f(a,b,c); no");
        h().isAll("f(a, b, c) =.. L", "L = [f,a,b,c]; no");
        h().isAll("X = a, ground(f(X, Y)), fail ; X = a, ground(f(X))", "X = a, Y = _1; no");
        h().isAll("X = f(Y), term_variables(g(X, Z, Y), L)", "X = f(_1), Y = _1, Z = _1, L = [_1,_2]; no");
        h().isAll("upcase_atom('az{`AZ09', X)", "X = 'AZ{`AZ09'; no");
        h().isAll("X = [a|Y], Y = [b], is_list(X), length(X, N)", "X = [a,b], Y = [b], N = 2; no");
        h().isAll("var(X), X = a, nonvar(X), atom(X), atomic(X), callable(X)", "X = a; no");
        for (String test : new String[] {"var(a)", "nonvar(X)", "atom(1)", "atom(f(a))", "atom(X)", "integer(a)", "integer(X)",
            "atomic(f(a))", "atomic(X)", "compound(a)", "compound(1)", "compound(X)", "callable(1)", "callable(X)", "is_list(X)",
            "is_list([a|X])", "is_list(a)", "ground(X)", "ground(f(a, X))", "ground([a|X])"}) {
            h().isFirst(test, "no");
        }
        yes("is_list([]), is_list([_]), is_list([a, b]), is_list(\"\")");
        h().isFirst("ground(f(X, a))", "no");
        h().isFirst("ground(f(g(X), a, b))", "no");
        yes("'' == '', atom_concat('', '', _E), _E == '', _E = '', atom_codes(_F, []), _F == _E");
        h().isAll("functor(T, f, 3), functor(S, g, 3), T = f(1, 2, 3), S = g(4, 5, 6)", "T = f(1,2,3), S = g(4,5,6); no");
        h().isAll("T =.. [f, X, Y], S =.. [g, X, Y], X = 1, Y = 2", "T = f(1,2), X = 1, Y = 2, S = g(1,2); no");
        h().isAll("length(L, 2), length(M, 2), L = [1, 2], M = [3, 4]", "L = [1,2], M = [3,4]; no");
        h().isAll("X = " + MAX + ", Y = " + MIN + ", X \\== Y, copy_term(f(X, Y), Z)",
                "X = " + MAX + ", Y = " + MIN + ", Z = f(" + MAX + "," + MIN + "); no");
        yes("atom([]), atom({}), atom(''), atomic(1), integer(-1), integer(" + MAX + "), compound([a]), compound({a}), callable(f(a))");
    }

    /** The occurs check goes through variables that have become something. */
    private static void occurs() {
        h().isAll("X = f(A), A = g(B), B = X", "no");
        h().isAll(MAX + " = 9223372036854775806", "no");
        h().isAll("f(" + MAX + ") = f(" + MIN + ")", "no");
        h().isAll("f(" + MAX + ") = f(1)", "no");
        h().isAll("X = " + MAX + ", X = " + MAX, "X = " + MAX + "; no");
        h().isAll("X = f(A), A = g(B), B = h(X)", "no");
        h().isAll("A = B, B = C, f(C) = A", "no");
        h().isAll("X = f(A, C), A = g(B), C = B, B = a", "X = f(g(a),a), A = g(a), C = a, B = a; no");
        House h = new House();
        h.isWork("X = f(A), A = g(B), B = X", 5 + 1 + 4 + 1 + 4 + 1 + (1 + 3));
        h.isWork("X = f(A), A = g(B), C = X", 5 + 1 + 4 + 1 + 4 + (1 + 1 + 3));
        h.consult("p(X, X). q(f(X), X).");
        h.isAll("p(A, f(A))", "no");
        h.isAll("q(A, A)", "no");
        h.isAll("A = g(B), q(B, A)", "no");
        h.isAll("dif(A, f(A))", "A = _1; no");
    }

    /** Terms that are deep on their left sides. */
    private static void deepLeft() {
        House h = new House();
        h.x.limit(30000);
        h.consult("l(0, z). l(N, T + a) :- N > 0, M is N - 1, l(M, T). :- table t/1. t(_). v(0, _). v(N, T + X) :- N > 0, "
                + "M is N - 1, v(M, T).");
        h.isTrue("l(300, T), l(300, U), T = U");
        h.isTrue("l(300, T), l(300, U), X = T, X == U, T = U, \\+ T \\= U, compare(=, T, U)");
        h.isTrue("l(300, T), copy_term(T, U), T == U, ground(T), term_variables(T, [])");
        h.isTrue("l(300, T), assertz(k(T)), k(U), T == U, clause(k(V), true), V == T, retract(k(T))");
        h.isTrue("l(300, T), findall(T, true, [U]), T == U, nb_setval(k, T), nb_getval(k, V), V == T");
        h.isTrue("l(300, T), catch(throw(T), U, true), T == U");
        h.isTrue("l(300, T), t(T), t(T)");
        House.same("one TABLE", h.x.count(8), 1);
        h.isTrue("v(200, T), t(T), v(200, U), t(U)");
        House.same("a variant of another", h.x.count(8), 2);
        h.isTrue("v(200, T), term_variables(T, L), length(L, N), N =:= 201");
        h.isFirst("l(200, T), X = T, X = f(X, T)", "no");
        h.isWritten("l(100, T), write(T)", "z" + " + a".repeat(100));
    }

    private static void longTrail() {
        House h = new House();
        h.x.limit(30000);
        h.consult("bs(0). bs(N) :- b_setval(k, N), M is N - 1, bs(M).");
        h.isTrue("length(L, 1100), findall(a, between(1, 1100, _), L), b_setval(k, 1), b_getval(k, X), X == 1");
        h.isTrue("bs(1100), b_getval(k, X), X == 1");
        h.isAll("\\+ \\+ bs(1100), b_setval(k, 2), b_getval(k, X)", "X = 2; no");
        h.isAll("b_getval(k, X)", "ball error(existence_error(variable,k),_1)");
    }

    /** More variables, goals and elements than the first rows hold. */
    private static void manyVariables() {
        House h = new House();
        StringBuilder list = new StringBuilder();
        for (int i = 0; i < 70; i++) {
            list.append(i > 0 ? "," : "").append("_V").append(i);
        }
        h.isFirst("bagof(x, [" + list + "] = [" + list + "], L)", "L = [x]");
        h.isTrue("T = g(" + list + "), bagof(_V1 - _V40, T = g(" + "a,".repeat(69) + "b), [X]), X == a - a, _V2 == a, _V38 == a, "
                + "_V69 == b, var(_V1), var(_V40)");
        h.isTrue("T = g(" + list + "), _V0 = a, term_variables(T, L), length(L, N), N =:= 69, L = [X|_], X == _V1");
    }

    /** What went gives its room free; what stays, stays in order. */
    private static void sweptClauses() {
        House h = new House();
        h.x.limit(30000);
        h.consult("a(1). a(2). b(1). c(1). c(2). c(3).");
        h.first("retract(b(1)), retract(c(2))");
        for (int i = 0; i < 4; i++) {
            h.first("between(1, 450, X), assertz(d(X)), retract(d(X)), X >= 450");
            h.first("assertz(b(" + i + ")), asserta(c(" + i + ")), assertz(c(z))");
        }
        h.isAll("findall(X, a(X), A), findall(X, b(X), B), findall(X, c(X), C)",
                "X = _1, A = [1,2], B = [0,1,2,3], C = [3,2,1,0,1,3,z,z,z,z]; no");
        h.isAll("append(X, Y, [1]), d(_)", "no");
        h.isAll("append(X, [b], [a, b])", "X = [a]; no");
        h.isAll("retract(a(1)), assertz(a(3)), findall(X, a(X), A)", "X = _1, A = [2,3]; no");
        House.same("clauses", h.x.count(3), 16);
        h.isAll("permutation([1, 2], L)", "L = [1,2]; L = [2,1]; no");
    }
}
