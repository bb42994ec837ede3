/** Texts of atoms and numbers, and what is written. */
public final class TextTest {
    private static House house = new House();

    /** A new house before the one there is has been called too often. */
    private static House h() {
        if (house.x.calls > House.MOST_CALLS - 130) {
            house = new House();
        }
        return house;
    }

    public static void main(String[] args) {
        atoms();
        lists();
        numbers();
        terms();
        output();
        limits();
        work();
        House.finish();
    }

    private static void atoms() {
        h().isAll("atom_length(abc, N), atom_length('', M), atom_length(-12, K)", "N = 3, M = 0, K = 3; no");
        h().isAll("atom_length(abc, 4)", "no");
        h().isAll("atom_length(A, N)", "ball error(instantiation_error,_1)");
        h().isAll("atom_length(f(x), N)", "ball error(type_error(atomic,f(x)),_1)");
        h().isAll("atom_length(abc, a)", "ball error(type_error(integer,a),_1)");
        h().isAll("atom_length(abc, -1)", "ball error(domain_error(not_less_than_zero,-1),_1)");
        h().isAll("atom_concat(ab, cd, X), atom_concat(1, 2, Y)", "X = abcd, Y = '12'; no");
        h().isAll("atom_concat(X, Y, ab)", "X = '', Y = ab; X = a, Y = b; X = ab, Y = ''; no");
        h().isAll("atom_concat(X, b, ab)", "X = a; no");
        h().isAll("atom_concat(a, X, ab)", "X = b; no");
        h().isAll("atom_concat(a, b, ab)", "yes; no");
        h().isAll("atom_concat(X, Y, Z)", "ball error(instantiation_error,_1)");
        h().isAll("atom_concat(f(x), Y, Z)", "ball error(type_error(atomic,f(x)),_1)");
        h().isAll("atom_concat(X, f(x), Z)", "ball error(type_error(atomic,f(x)),_1)");
        h().isAll("atom_concat(X, Y, f(x))", "ball error(type_error(atomic,f(x)),_1)");
        h().isAll("sub_atom(abc, B, 2, R, S)", "B = 0, R = 1, S = ab; B = 1, R = 0, S = bc; no");
        h().isAll("sub_atom(abab, B, L, R, ab)", "B = 0, L = 2, R = 2; B = 2, L = 2, R = 0; no");
        h().isAll("sub_atom(ab, B, L, R, S)", "B = 0, L = 0, R = 2, S = ''; B = 0, L = 1, R = 1, S = a; "
                + "B = 0, L = 2, R = 0, S = ab; B = 1, L = 0, R = 1, S = ''; B = 1, L = 1, R = 0, S = b; "
                + "B = 2, L = 0, R = 0, S = ''; no");
        h().isAll("sub_atom(A, B, L, R, S)", "ball error(instantiation_error,_1)");
        h().isAll("sub_atom(f(x), B, L, R, S)", "ball error(type_error(atomic,f(x)),_1)");
        h().isAll("sub_atom(abc, a, L, R, S)", "ball error(type_error(integer,a),_1)");
        h().isAll("sub_atom(abc, B, L, R, 3)", "ball error(type_error(atom,3),_1)");
        h().isAll("upcase_atom('aZ 1_', U), upcase_atom(12, V)", "U = 'AZ 1_', V = '12'; no");
        h().isAll("upcase_atom(A, U)", "ball error(instantiation_error,_1)");
        h().isAll("char_code(X, 0'a), char_code(b, Y)", "X = a, Y = 98; no");
        h().isAll("char_code(X, Y)", "ball error(instantiation_error,_1)");
        h().isAll("char_code(ab, Y)", "ball error(type_error(character,ab),_1)");
        h().isAll("char_code(3, Y)", "ball error(type_error(character,3),_1)");
        h().isAll("char_code(a, b)", "ball error(type_error(integer,b),_1)");
        h().isAll("char_code(X, a)", "ball error(type_error(integer,a),_1)");
        h().isAll("char_code(X, 0)", "ball error(representation_error(character_code),_1)");
        h().isAll("char_code(X, 128)", "ball error(representation_error(character_code),_1)");
    }

    private static void lists() {
        h().isAll("atom_codes(abc, L), atom_codes(X, \"xy\")", "L = [97,98,99], X = xy; no");
        h().isAll("atom_chars(-12, L), atom_chars(X, ['1', a])", "L = [-,'1','2'], X = '1a'; no");
        h().isAll("atom_codes(X, []), atom_codes([], L)", "X = '', L = [91,93]; no");
        h().isAll("atom_codes(X, Y)", "ball error(instantiation_error,_1)");
        h().isAll("atom_codes(X, [97|Y])", "ball error(instantiation_error,_1)");
        h().isAll("atom_codes(X, a)", "ball error(type_error(list,a),_1)");
        h().isAll("atom_codes(X, [Y])", "ball error(instantiation_error,_1)");
        h().isAll("atom_codes(X, [a])", "ball error(type_error(integer,a),_1)");
        h().isAll("atom_codes(X, [0])", "ball error(representation_error(character_code),_1)");
        h().isAll("atom_codes(X, [127, 128])", "ball error(representation_error(character_code),_1)");
        h().isAll("atom_codes(f(x), L)", "ball error(type_error(atomic,f(x)),_1)");
        h().isAll("atom_chars(X, [a, bc])", "ball error(type_error(character,bc),_1)");
        h().isAll("atom_chars(X, [1])", "ball error(type_error(character,1),_1)");
        h().isAll("atom_chars(X, [a, Y])", "ball error(instantiation_error,_1)");
        h().isAll("atom_codes(abc, [X|Y])", "X = 97, Y = [98,99]; no");
    }

    private static void numbers() {
        h().isAll("number_codes(X, \" 12\"), number_codes(Y, \"-0x1f\"), number_codes(Z, \"0'a\")", "X = 12, Y = -31, Z = 97; no");
        h().isAll("number_codes(X, \"% c\n 7\")", "place 16");
        h().isAll("number_codes(X, \"% c\\n 7\")", "X = 7; no");
        h().isAll("number_codes(X, \"/* d */ 7\"), number_codes(12, L)", "X = 7, L = [49,50]; no");
        h().isAll("number_codes(X, \"-9223372036854775808\")", "X = -9223372036854775808; no");
        for (String bad : new String[] {"", "a", "1 ", "1 2", "- 1", "+1", "9223372036854775808", "-", "0'", "1.5", "/* 1"}) {
            h().isAll("number_codes(X, \"" + bad + "\")", "ball error(syntax_error(illegal_number),_1)");
            h().isAll("atom_number('" + bad.replace("'", "''") + "', X)", "no");
        }
        h().isAll("number_codes(X, Y)", "ball error(instantiation_error,_1)");
        h().isAll("number_codes(a, L)", "ball error(type_error(integer,a),_1)");
        h().isAll("number_codes(X, [0'1, a])", "ball error(type_error(integer,a),_1)");
        h().isAll("atom_number('12', X), atom_number(Y, 15), atom_number(7, Z)", "X = 12, Y = '15', Z = 7; no");
        h().isAll("atom_number('12', 13)", "no");
        h().isAll("atom_number('12', 12), atom_number(' 12', 12)", "yes; no");
        h().isAll("atom_number(x, 12)", "no");
        h().isAll("number_codes(12, \"12\")", "yes; no");
        h().isAll("number_codes(12, \" 12\")", "no");
        h().isAll("number_codes(12, \"x\")", "no");
        h().isAll("number_codes(a, \"12\")", "ball error(type_error(integer,a),_1)");
        h().isAll("atom_concat(1, X, '12')", "no");
        h().isAll("atom_concat(X, 2, '12')", "no");
        h().isAll("atom_concat('1', X, 12)", "X = '2'; no");
        h().isAll("atom_concat(X, Y, 12)", "X = '', Y = '12'; X = '1', Y = '2'; X = '12', Y = ''; no");
        h().isAll("atom_number(X, Y)", "ball error(instantiation_error,_1)");
        h().isAll("atom_number(X, a)", "ball error(type_error(integer,a),_1)");
        h().isAll("atom_number('12', a)", "ball error(type_error(integer,a),_1)");
        h().isAll("atom_number(f(x), X)", "ball error(type_error(atomic,f(x)),_1)");
    }

    private static void terms() {
        h().isAll("term_to_atom(f(X, 'A', Y, X + 1), A)", "X = _1, Y = _1, A = 'f(_1,''A'',_2,_1 + 1)'; no");
        h().isAll("term_to_atom(T, 'foo(X, Y, X) .')", "T = foo(_1,_2,_1); no");
        h().isAll("term_to_atom(f(a, X), 'f(Y, b)')", "X = b; no");
        h().isAll("term_to_atom(X, 12)", "X = 12; no");
        h().isAll("term_to_atom(T, 'foo(X')", "ball error(syntax_error(5),_1)");
        h().isAll("term_to_atom(T, 'a b')", "ball error(syntax_error(2),_1)");
        h().isAll("term_to_atom(T, '')", "ball error(syntax_error(0),_1)");
        h().isAll("term_to_atom(T, A)", "ball error(instantiation_error,_1)");
        h().isAll("term_to_atom(T, f(x))", "ball error(type_error(atomic,f(x)),_1)");
    }

    private static void output() {
        h().isWritten("write('A b'), write([a, 'B'|c]), write(- 1), write({x}), write(1 + 2)", "A b[a,B|c]- 1{x}1 + 2");
        h().isWritten("writeq('A b'), writeq(f(X, Y, X)), writeq(X)", "'A b'f(_1,_2,_1)_1");
        h().isWritten("write_canonical([a + 'B', {x}, - 1])", "[+(a,'B'),{}(x),-(1)]");
        h().isWritten("put_char(a), nl, tab(2), put_char('\\t'), tab(0), tab(-3), tab(1 + 1), write(x)", "a\n  \t  x");
        h().isAll("put_char(X)", "ball error(instantiation_error,_1)");
        h().isAll("put_char(ab)", "ball error(type_error(character,ab),_1)");
        h().isAll("put_char(1)", "ball error(type_error(character,1),_1)");
        h().isAll("tab(X)", "ball error(instantiation_error,_1)");
        h().isAll("tab(a)", "ball error(type_error(evaluable,a / 0),_1)");
        h().isAll("tab(9223372036854775807)", "spent");
    }

    private static void limits() {
        h().isTrue("findall(0'a, between(1, 250, _), L), atom_codes(A, L), atom_length(A, 250)");
        h().isAll("findall(0'a, between(1, 251, _), L), atom_codes(A, L)", "ball error(resource_error(atom),_1)");
        h().isAll("findall(0'a, between(1, 250, _), L), atom_codes(A, L), atom_concat(A, b, C)",
                "ball error(resource_error(atom),_1)");
        h().isAll("numlist(1, 100, L), term_to_atom(L, A)", "ball error(resource_error(atom),_1)");
        h().isTrue("findall(32, between(1, 300, _), L), append(L, \"7\", M), number_codes(X, M), L = [_|_]");
    }

    /** Each number is counted by hand from the document. */
    private static void work() {
        h().isWork("atom_length(abc, N)", 1 + 2);
        h().isWork("atom_concat(ab, c, X)", 1 + 3 + 2);
        h().isWork("atom_concat(X, Y, ab)", 1 + (1 + 2) + 2 + 2);
        h().isWork("atom_concat(X, b, ab)", 1 + (3 + 2 + 1) + (3 + 2 + 1));
        h().isWork("sub_atom(ab, B, 1, R, S)", 1 + (1 + 2 + 1) + (2 + 2 + 1 + 2 + 2));
        h().isWork("atom_codes(ab, L)", 1 + 2 + 6);
        h().isWork("atom_codes(X, \"ab\")", 1 + 2 + 2);
        h().isWork("atom_chars(X, [a, b, c])", 1 + 3 + 2);
        h().isWork("number_codes(X, \"12\")", 1 + 2 + 2);
        h().isWork("number_codes(X, \"1a\")", 1 + 2 + 4);
        h().isWork("atom_number('12', X)", 1 + 2);
        h().isWork("atom_number(X, 12)", 1 + 2 + 2);
        h().isWork("upcase_atom(abc, X)", 1 + 3 + 2);
        h().isWork("char_code(X, 97)", 1 + 2);
        h().isWork("term_to_atom(f(X), A)", 1 + 5 + 2);
        h().isWork("term_to_atom(X, 'f(a)')", 1 + 4 + 3);
        h().isWork("term_to_atom(X, 'f(a')", 1 + 3 + 4);
        h().isWork("write(abc)", 1 + 3);
        h().isWork("nl", 2);
        h().isWork("put_char(a)", 2);
        h().isWork("tab(1 + 2)", 1 + 3 + 3);
        h().isWork("findall(0'a, between(1, 251, _), L), atom_codes(A, L)", 3 + 1 + 1 + (1 + 251 * 3) + 251 + 251 + (1 + 503)
                + 1 + 251 + 4);
    }
}
