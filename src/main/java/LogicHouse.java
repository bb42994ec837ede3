import java.util.Arrays;

/**
 * A house for programs as logic: Prolog with goals that wait, terms that stay unlike, and tables. All it does is
 * counted, so that every run ends.
 */
public final class LogicHouse {
    private static final int TAPE_SIZE = 8192, OUT_SIZE = 32768, RESULT_SIZE = 32768;
    private static final int FIRST_LIMIT = 20000, LEAST_LIMIT = 100, MOST_LIMIT = 30000;
    private static final int MOST_BYTES = 250, MOST_ARGUMENTS = 255, MOST_DEPTH = 80, MOST_OPERATORS = 150;
    private static final int MOST_CLAUSES = 1000, MOST_ROOM = 12000, MOST_PREDICATES = 300;
    private static final int MOST_KEYS = 100, MOST_VALUE_ROOM = 4000;
    private static final int MOST_TABLES = 100, MOST_ANSWERS = 2000, MOST_TABLE_ROOM = 8000;

    /** Far above what any run can need: every loop that WORK or the size of a text ends has it as its bound. */
    private static final int LOOPS = 4000000;
    private static final int MOST_TURNED = 200000;
    /** More WORK than any LIMIT. */
    private static final int UNMETERED = 1 << 29;

    // What the three lowest bits of a cell tell of the others.
    private static final int REF = 0, ATOM = 1, INT = 2, STR = 3, FUN = 4, BIG = 5, VARN = 6;
    /** No cell. */
    private static final long NONE = 7;

    private static final int BEYOND = 4, BUCKETS = 1024, SWEEP_ATOMS = 1500, SWEEP_CLAUSES = 400, SWEEP_VALUES = 8000;

    private static final int TOKEN_NONE = 0, TOKEN_END = 1, TOKEN_NAME = 2, TOKEN_VARIABLE = 3, TOKEN_NUMBER = 4,
            TOKEN_STRING = 5, TOKEN_PUNCTUATION = 6, TOKEN_BAD = 7;

    // What the writer still has to write.
    private static final int W_TERM = 0, W_OPERAND = 1, W_BYTE = 2, W_NAME = 3, W_ARGUMENTS = 4, W_TAIL = 5;

    // Rows of predicates and of clauses.
    private static final int R_WIDTH = 7, R_FIXED = 1, R_FIRST = 2, R_LAST = 3, R_LIVE = 4, R_TABLED = 5, R_KNOWN = 6;
    private static final int NOT_FIXED = -1, DEFINED = -2;
    private static final int C_WIDTH = 4, C_NEXT = 1, C_BORN = 2, C_DIED = 3, ALIVE = Integer.MAX_VALUE;

    // Rows of TABLES, and their states.
    private static final int T_WIDTH = 7, T_PRED = 0, T_CALL = 1, T_STATE = 2, T_ROUND = 3, T_FIRST = 4, T_LAST = 5,
            T_COUNT = 6;
    private static final int T_OPEN = 0, T_COMPLETE = 1, T_GONE = 2;

    // Frames: a goal, or what comes behind one.
    private static final int F_WIDTH = 3, F_GOAL = 0, F_CUT = 1, F_NOT = 2, F_SOFT = 3, F_CATCH = 4, F_COLLECT = 5,
            F_ANSWER = 6, F_STOP = 7;

    // Choices: what is left to try, or what ends with them.
    private static final int K_WIDTH = 9, K_A = 6, K_B = 7, K_C = 8;
    private static final int K_CLAUSES = 0, K_OTHER = 1, K_NOT = 2, K_CATCH = 3, K_DEAD = 4, K_FINDALL = 5,
            K_GROUPS = 6, K_TABLE = 7, K_ANSWERS = 8, K_BUILTIN = 9;

    /** Where the goals that WAIT begin among what is held, behind the values of the keys. */
    private static final int HELD_WAITS = 128;
    private static final int WAIT_FREEZE = 0, WAIT_DIF = 1, WAIT_OVER = 2;

    // What predicateOf answers beside the numbers of FIXED predicates.
    private static final int FAILED = -1, CLAUSES_TRIED = -2, NO_GOAL = -3;

    private static final int NO_ERROR = -1;

    private static final int NO_MORE = 0, ANSWER = 1, BALL = 2, SPENT = 3;

    // What a byte is in a text, by CLASSES, and which digit, by DIGITS (99: none).
    private static final int IS_BLANK = 1, IS_SMALL = 2, IS_CAPITAL = 3, IS_DIGIT = 4, IS_SYMBOL = 5, IS_BRACKET = 6,
            IS_QUOTE = 7, IS_SOLO = 8;
    private static final byte[] CLASSES = {
            0, 0, 0, 0, 0, 0, 0, 0, 0, 1, 1, 0, 0, 1, 0, 0, 0, 0, 0, 0, 0, 0, 0, 0, 0, 0, 0, 0, 0, 0, 0, 0,
            1, 8, 7, 5, 5, 0, 5, 7, 6, 6, 5, 5, 6, 5, 5, 5, 4, 4, 4, 4, 4, 4, 4, 4, 4, 4, 5, 8, 5, 5, 5, 5,
            5, 3, 3, 3, 3, 3, 3, 3, 3, 3, 3, 3, 3, 3, 3, 3, 3, 3, 3, 3, 3, 3, 3, 3, 3, 3, 3, 6, 5, 6, 5, 3,
            0, 2, 2, 2, 2, 2, 2, 2, 2, 2, 2, 2, 2, 2, 2, 2, 2, 2, 2, 2, 2, 2, 2, 2, 2, 2, 2, 6, 6, 6, 5, 0,
            0, 0, 0, 0, 0, 0, 0, 0, 0, 0, 0, 0, 0, 0, 0, 0, 0, 0, 0, 0, 0, 0, 0, 0, 0, 0, 0, 0, 0, 0, 0, 0,
            0, 0, 0, 0, 0, 0, 0, 0, 0, 0, 0, 0, 0, 0, 0, 0, 0, 0, 0, 0, 0, 0, 0, 0, 0, 0, 0, 0, 0, 0, 0, 0,
            0, 0, 0, 0, 0, 0, 0, 0, 0, 0, 0, 0, 0, 0, 0, 0, 0, 0, 0, 0, 0, 0, 0, 0, 0, 0, 0, 0, 0, 0, 0, 0,
            0, 0, 0, 0, 0, 0, 0, 0, 0, 0, 0, 0, 0, 0, 0, 0, 0, 0, 0, 0, 0, 0, 0, 0, 0, 0, 0, 0, 0, 0, 0, 0
    };
    private static final byte[] DIGITS = {
            99, 99, 99, 99, 99, 99, 99, 99, 99, 99, 99, 99, 99, 99, 99, 99,
            99, 99, 99, 99, 99, 99, 99, 99, 99, 99, 99, 99, 99, 99, 99, 99,
            99, 99, 99, 99, 99, 99, 99, 99, 99, 99, 99, 99, 99, 99, 99, 99,
            0, 1, 2, 3, 4, 5, 6, 7, 8, 9, 99, 99, 99, 99, 99, 99,
            99, 10, 11, 12, 13, 14, 15, 99, 99, 99, 99, 99, 99, 99, 99, 99,
            99, 99, 99, 99, 99, 99, 99, 99, 99, 99, 99, 99, 99, 99, 99, 99,
            99, 10, 11, 12, 13, 14, 15, 99, 99, 99, 99, 99, 99, 99, 99, 99,
            99, 99, 99, 99, 99, 99, 99, 99, 99, 99, 99, 99, 99, 99, 99, 99,
            99, 99, 99, 99, 99, 99, 99, 99, 99, 99, 99, 99, 99, 99, 99, 99,
            99, 99, 99, 99, 99, 99, 99, 99, 99, 99, 99, 99, 99, 99, 99, 99,
            99, 99, 99, 99, 99, 99, 99, 99, 99, 99, 99, 99, 99, 99, 99, 99,
            99, 99, 99, 99, 99, 99, 99, 99, 99, 99, 99, 99, 99, 99, 99, 99,
            99, 99, 99, 99, 99, 99, 99, 99, 99, 99, 99, 99, 99, 99, 99, 99,
            99, 99, 99, 99, 99, 99, 99, 99, 99, 99, 99, 99, 99, 99, 99, 99,
            99, 99, 99, 99, 99, 99, 99, 99, 99, 99, 99, 99, 99, 99, 99, 99,
            99, 99, 99, 99, 99, 99, 99, 99, 99, 99, 99, 99, 99, 99, 99, 99
    };

    // The atoms that the program itself needs, by number: the order of ATOMS_1 and on.
    private static final int A_NIL = 0, A_DOT = 1, A_CURLY = 2, A_COMMA = 3, A_SEMI = 4, A_ARROW = 5,
            A_SOFT = 6, A_CUT = 7, A_BAR = 8, A_NECK = 9, A_GRAMMAR = 10, A_MINUS = 11, A_PLUS = 12,
            A_TIMES = 13, A_SLASH = 14, A_INTDIV = 15, A_MOD = 16, A_REM = 17, A_DIV = 18, A_MIN = 19,
            A_MAX = 20, A_GCD = 21, A_SHL = 22, A_SHR = 23, A_AND = 24, A_OR = 25, A_XOR = 26, A_CARET = 27,
            A_POWER = 28, A_INVERT = 29, A_ABS = 30, A_SIGN = 31, A_MSB = 32, A_TRUE = 33, A_CALL = 34,
            A_NOT = 35, A_EQUALS = 36, A_PHRASE = 37, A_LESS = 38, A_GREATER = 39, A_ERROR = 40,
            A_INSTANTIATION = 41, A_TYPE = 42, A_DOMAIN = 43, A_EXISTENCE = 44, A_PERMISSION = 45,
            A_REPRESENTATION = 46, A_EVALUATION = 47, A_RESOURCE = 48, A_SYNTAX = 49, A_CALLABLE = 50,
            A_INTEGER = 51, A_ATOM_TYPE = 52, A_ATOMIC = 53, A_COMPOUND = 54, A_LIST = 55, A_EVALUABLE = 56,
            A_FLOAT = 57, A_PAIR = 58, A_CHARACTER = 59, A_INDICATOR = 60, A_ORDER = 61, A_NOT_LESS = 62,
            A_NON_EMPTY = 63, A_PRIORITY = 64, A_SPECIFIER = 65, A_PROCEDURE = 66, A_VARIABLE = 67,
            A_MODIFY = 68, A_CREATE = 69, A_ACCESS = 70, A_STATIC = 71, A_PRIVATE = 72, A_OPERATOR = 73,
            A_OPERATORS = 74, A_CLAUSES = 75, A_PREDICATES = 76, A_VALUES = 77, A_TABLES = 78, A_MAX_ARITY = 79,
            A_CHAR_CODE = 80, A_OVERFLOW = 81, A_UNDEFINED = 82, A_ZERO_DIVISOR = 83, A_ILLEGAL = 84, A_XFX = 85,
            A_XFY = 86, A_YFX = 87, A_FX = 88, A_FY = 89;
    private static final String ATOMS_1 = "[] . {} , ; -> *-> ! | :- --> - + * / // mod rem div min max gcd <<";
    private static final String ATOMS_2 = ">> /\\ \\/ xor ^ ** \\ abs sign msb true call \\+ = phrase < > error";
    private static final String ATOMS_3 = "instantiation_error type_error domain_error existence_error";
    private static final String ATOMS_4 = "permission_error representation_error evaluation_error";
    private static final String ATOMS_5 = "resource_error syntax_error callable integer atom atomic compound";
    private static final String ATOMS_6 = "list evaluable float pair character predicate_indicator order";
    private static final String ATOMS_7 = "not_less_than_zero non_empty_list operator_priority";
    private static final String ATOMS_8 = "operator_specifier procedure variable modify create access";
    private static final String ATOMS_9 = "static_procedure private_procedure operator operators clauses";
    private static final String ATOMS_10 = "predicates values tables max_arity character_code int_overflow";
    private static final String ATOMS_11 = "undefined zero_divisor illegal_number xfx xfy yfx fx fy";

    // The FIXED predicates that are no clauses, by number: the order of FIXED_1 and on.
    private static final int P_TRUE = 0, P_FAIL = 1, P_COMMA = 2, P_SEMI = 3, P_ARROW = 4, P_SOFT = 5,
            P_CUT = 6, P_NOT = 7, P_CALL1 = 8, P_CALL2 = 9, P_CALL3 = 10, P_CALL4 = 11, P_CALL5 = 12,
            P_CALL6 = 13, P_CALL7 = 14, P_CALL8 = 15, P_ONCE = 16, P_IGNORE = 17, P_FORALL = 18, P_CATCH = 19,
            P_THROW = 20, P_FINDALL = 21, P_BAGOF = 22, P_SETOF = 23, P_PHRASE2 = 24, P_PHRASE3 = 25,
            P_FREEZE = 26, P_DIF = 27, P_UNIFY = 28, P_NOT_UNIFY = 29, P_SAME = 30, P_NOT_SAME = 31,
            P_BEFORE = 32, P_AFTER = 33, P_NOT_AFTER = 34, P_NOT_BEFORE = 35, P_COMPARE = 36, P_VAR = 37,
            P_NONVAR = 38, P_ATOM = 39, P_INTEGER = 40, P_ATOMIC = 41, P_COMPOUND = 42, P_CALLABLE = 43,
            P_IS_LIST = 44, P_GROUND = 45, P_FUNCTOR = 46, P_ARG = 47, P_UNIV = 48, P_COPY_TERM = 49,
            P_TERM_VARIABLES = 50, P_SORT = 51, P_MSORT = 52, P_KEYSORT = 53, P_LENGTH = 54, P_BETWEEN = 55,
            P_IS = 56, P_EQUAL = 57, P_UNEQUAL = 58, P_LESS = 59, P_GREATER = 60, P_AT_MOST = 61,
            P_AT_LEAST = 62, P_ASSERTZ = 63, P_ASSERTA = 64, P_RETRACT = 65, P_RETRACTALL = 66, P_CLAUSE = 67,
            P_DYNAMIC = 68, P_TABLE = 69, P_CURRENT_PREDICATE = 70, P_NB_SETVAL = 71, P_B_SETVAL = 72,
            P_NB_GETVAL = 73, P_B_GETVAL = 74, P_ABOLISH = 75, P_OP = 76, P_CURRENT_OP = 77, P_ATOM_LENGTH = 78,
            P_ATOM_CONCAT = 79, P_SUB_ATOM = 80, P_ATOM_CODES = 81, P_ATOM_CHARS = 82, P_CHAR_CODE = 83,
            P_NUMBER_CODES = 84, P_ATOM_NUMBER = 85, P_UPCASE = 86, P_TERM_TO_ATOM = 87, P_WRITE = 88,
            P_WRITEQ = 89, P_WRITE_CANONICAL = 90, P_NL = 91, P_PUT_CHAR = 92, P_TAB = 93;
    private static final String FIXED_1 = "true/0 fail/0 ,/2 ;/2 ->/2 *->/2 !/0 \\+/1 call/1 call/2 call/3";
    private static final String FIXED_2 = "call/4 call/5 call/6 call/7 call/8 once/1 ignore/1 forall/2 catch/3";
    private static final String FIXED_3 = "throw/1 findall/3 bagof/3 setof/3 phrase/2 phrase/3 freeze/2 dif/2";
    private static final String FIXED_4 = "=/2 \\=/2 ==/2 \\==/2 @</2 @>/2 @=</2 @>=/2 compare/3 var/1 nonvar/1";
    private static final String FIXED_5 = "atom/1 integer/1 atomic/1 compound/1 callable/1 is_list/1 ground/1";
    private static final String FIXED_6 = "functor/3 arg/3 =../2 copy_term/2 term_variables/2 sort/2 msort/2";
    private static final String FIXED_7 = "keysort/2 length/2 between/3 is/2 =:=/2 =\\=/2 </2 >/2 =</2 >=/2";
    private static final String FIXED_8 = "assertz/1 asserta/1 retract/1 retractall/1 clause/2 dynamic/1";
    private static final String FIXED_9 = "table/1 current_predicate/1 nb_setval/2 b_setval/2 nb_getval/2";
    private static final String FIXED_10 = "b_getval/2 abolish_all_tables/0 op/3 current_op/3 atom_length/2";
    private static final String FIXED_11 = "atom_concat/3 sub_atom/5 atom_codes/2 atom_chars/2 char_code/2";
    private static final String FIXED_12 = "number_codes/2 atom_number/2 upcase_atom/2 term_to_atom/2 write/1";
    private static final String FIXED_13 = "writeq/1 write_canonical/1 nl/0 put_char/1 tab/1";

    // Cells that are looked for often.
    private static final long NIL = (long) A_NIL << 3 | ATOM, YES = (long) A_TRUE << 3 | ATOM;
    private static final long LIST_FUNCTOR = ((long) A_DOT << 8 | 2) << 3 | FUN;
    private static final long COMMA_FUNCTOR = ((long) A_COMMA << 8 | 2) << 3 | FUN;
    private static final long SEMI_FUNCTOR = ((long) A_SEMI << 8 | 2) << 3 | FUN;
    private static final long ARROW_FUNCTOR = ((long) A_ARROW << 8 | 2) << 3 | FUN;
    private static final long SOFT_FUNCTOR = ((long) A_SOFT << 8 | 2) << 3 | FUN;
    private static final long CALL_FUNCTOR = ((long) A_CALL << 8 | 1) << 3 | FUN;
    private static final long CURLY_ATOM = (long) A_CURLY << 3 | ATOM, CUT_ATOM = (long) A_CUT << 3 | ATOM;

    // The DEFINED predicates.
    private static final String LIBRARY_1 = "append([], L, L). append([X|A], B, [X|C]) :- append(A, B, C).";
    private static final String LIBRARY_2 = "member(X, [X|_]). member(X, [_|L]) :- member(X, L).";
    private static final String LIBRARY_3 = "memberchk(X, L) :- member(X, L), !. reverse(L, R) :- '$r'(L, [], R).";
    private static final String LIBRARY_4 = "'$r'([], R, R). '$r'([X|L], A, R) :- '$r'(L, [X|A], R).";
    private static final String LIBRARY_5 = "select(X, [X|L], L). select(X, [Y|L], [Y|M]) :- select(X, L, M).";
    private static final String LIBRARY_6 = "permutation([], []).";
    private static final String LIBRARY_7 = "permutation(L, [X|P]) :- select(X, L, M), permutation(M, P).";
    private static final String LIBRARY_8 = "nth0(N, L, X) :- '$n'(L, 0, N, X). nth1(N, L, X) :- '$n'(L, 1, N, X).";
    private static final String LIBRARY_9 = "'$n'([X|_], N, N, X).";
    private static final String LIBRARY_10 = "'$n'([_|L], I, N, X) :- J is I + 1, '$n'(L, J, N, X). last([X], X).";
    private static final String LIBRARY_11 = "last([_|L], X) :- last(L, X). maplist(_, []).";
    private static final String LIBRARY_12 = "maplist(G, [X|L]) :- call(G, X), maplist(G, L). maplist(_, [], []).";
    private static final String LIBRARY_13 = "maplist(G, [X|L], [Y|M]) :- call(G, X, Y), maplist(G, L, M).";
    private static final String LIBRARY_14 = "foldl(_, [], A, A).";
    private static final String LIBRARY_15 = "foldl(G, [X|L], A, B) :- call(G, X, A, C), foldl(G, L, C, B).";
    private static final String LIBRARY_16 = "sum_list(L, S) :- '$s'(L, 0, S). '$s'([], S, S).";
    private static final String LIBRARY_17 = "'$s'([X|L], A, S) :- B is A + X, '$s'(L, B, S).";
    private static final String LIBRARY_18 = "numlist(A, B, []) :- A > B, !.";
    private static final String LIBRARY_19 = "numlist(A, B, [A|L]) :- C is A + 1, numlist(C, B, L). delete([], _, []).";
    private static final String LIBRARY_20 = "delete([X|L], Y, M) :- X \\= Y, !, M = [X|N], delete(L, Y, N).";
    private static final String LIBRARY_21 = "delete([_|L], Y, M) :- delete(L, Y, M). exclude(_, [], []).";
    private static final String LIBRARY_22 = "exclude(G, [X|L], M) :- call(G, X), !, exclude(G, L, M).";
    private static final String LIBRARY_23 = "exclude(G, [X|L], [X|M]) :- exclude(G, L, M). include(_, [], []).";
    private static final String LIBRARY_24 = "include(G, [X|L], [X|M]) :- call(G, X), !, include(G, L, M).";
    private static final String LIBRARY_25 = "include(G, [_|L], M) :- include(G, L, M).";

    private final byte[] tape = new byte[TAPE_SIZE];
    private int tapeSize;
    private byte[] result = new byte[1024];
    private int resultSize;
    private final Terms terms;
    private final Kept bag;
    private final Program program;
    private final Writer writer;
    private final Machine machine;
    private final Reader reader;
    private int limit = FIRST_LIMIT;
    private boolean running;
    /** What the latest next of the query answered, -1 if there was none. */
    private int latest = -1;
    private int answers;
    /** Of each variable of the query: where its name begins in names, how long it is, its address. */
    private int[] variables = new int[24];
    private int variableCount;
    private byte[] names = new byte[64];
    private int errors;
    private int failures;
    private byte[] ballText = new byte[64];
    private int ballSize;

    public LogicHouse() {
        Atoms atoms = new Atoms();
        terms = new Terms(atoms);
        bag = new Kept(terms, 2048);
        program = new Program(terms, bag);
        writer = new Writer(terms);
        machine = new Machine(terms, program, bag, writer);
        reader = new Reader(terms);
        internAtoms(atoms);
        atoms.firstOperators();
        addFixed();
        addLibrary();
        atoms.fix();
        program.fix();
    }

    private static void internAtoms(Atoms atoms) {
        atoms.internWords(ATOMS_1);
        atoms.internWords(ATOMS_2);
        atoms.internWords(ATOMS_3);
        atoms.internWords(ATOMS_4);
        atoms.internWords(ATOMS_5);
        atoms.internWords(ATOMS_6);
        atoms.internWords(ATOMS_7);
        atoms.internWords(ATOMS_8);
        atoms.internWords(ATOMS_9);
        atoms.internWords(ATOMS_10);
        atoms.internWords(ATOMS_11);
    }

    private void addFixed() {
        program.addFixed(FIXED_1);
        program.addFixed(FIXED_2);
        program.addFixed(FIXED_3);
        program.addFixed(FIXED_4);
        program.addFixed(FIXED_5);
        program.addFixed(FIXED_6);
        program.addFixed(FIXED_7);
        program.addFixed(FIXED_8);
        program.addFixed(FIXED_9);
        program.addFixed(FIXED_10);
        program.addFixed(FIXED_11);
        program.addFixed(FIXED_12);
        program.addFixed(FIXED_13);
    }

    private void addLibrary() {
        addDefined(LIBRARY_1);
        addDefined(LIBRARY_2);
        addDefined(LIBRARY_3);
        addDefined(LIBRARY_4);
        addDefined(LIBRARY_5);
        addDefined(LIBRARY_6);
        addDefined(LIBRARY_7);
        addDefined(LIBRARY_8);
        addDefined(LIBRARY_9);
        addDefined(LIBRARY_10);
        addDefined(LIBRARY_11);
        addDefined(LIBRARY_12);
        addDefined(LIBRARY_13);
        addDefined(LIBRARY_14);
        addDefined(LIBRARY_15);
        addDefined(LIBRARY_16);
        addDefined(LIBRARY_17);
        addDefined(LIBRARY_18);
        addDefined(LIBRARY_19);
        addDefined(LIBRARY_20);
        addDefined(LIBRARY_21);
        addDefined(LIBRARY_22);
        addDefined(LIBRARY_23);
        addDefined(LIBRARY_24);
        addDefined(LIBRARY_25);
    }

    /** Adds clauses of the library; THE TAPE, still empty, is where they are read from. */
    private void addDefined(String text) {
        int n = Math.min(text.length(), TAPE_SIZE);
        for (int i = 0; i < n; i++) {
            tape[i] = (byte) text.charAt(i);
        }
        reader.open(tape, n);
        for (int i = 0; i <= n && !reader.atEnd(); i++) {
            long clause = reader.readClause();
            if (clause == NONE) {
                return;
            }
            program.add(clause, true, true);
            terms.top = 0;
        }
    }

    public int feed(int a, int b, int c, int d, int e) throws IllegalStateException {
        if (tapeSize + 20 > TAPE_SIZE) {
            throw new IllegalStateException("the tape is full");
        }
        putOnTape(a);
        putOnTape(b);
        putOnTape(c);
        putOnTape(d);
        putOnTape(e);
        return tapeSize;
    }

    private void putOnTape(int bytes) {
        for (int shift = 24; shift >= 0; shift -= 8) {
            tape[tapeSize++] = (byte) (bytes >> shift);
        }
    }

    public int end(int n) throws IllegalArgumentException {
        if (n < 0 || n > tapeSize) {
            throw new IllegalArgumentException("the tape has not so many bytes");
        }
        tapeSize = n;
        return n;
    }

    public int consult() {
        int n = takeTape();
        int top = terms.top;
        int added = 0;
        errors = 0;
        failures = 0;
        reader.open(tape, n);
        for (int i = 0; i <= n && !reader.atEnd(); i++) {
            long clause = reader.readClause();
            if (clause == NONE) {
                terms.top = top;
                return -1 - reader.place;
            }
            if (terms.hasFunctor(clause, A_NECK, 1)) {
                endQuery();
                sweep();
                machine.begin(terms.argument(clause, 1), limit);
                int answer = machine.solve();
                endRun(answer);
                failures += answer == ANSWER ? 0 : 1;
            } else if (addClause(clause)) {
                added++;
            } else {
                errors++;
            }
            terms.top = top;
        }
        return added;
    }

    private int takeTape() {
        int n = tapeSize;
        tapeSize = 0;
        return n;
    }

    private boolean addClause(long clause) {
        long turned = terms.hasFunctor(clause, A_GRAMMAR, 2) ? program.clauseOf(clause) : clause;
        boolean added = turned != NONE && program.add(turned, true, false);
        terms.ball = NONE;
        return added;
    }

    private void endRun(int answer) {
        if (answer == BALL) {
            keepBall();
        }
        endQuery();
    }

    private void endQuery() {
        running = false;
        terms.releaseValues();
        machine.tables.dropOpen();
    }

    /** Nobody is in the middle of anything now: what is no longer needed goes. All atoms in the cells stay. */
    private void sweep() {
        Atoms atoms = terms.atoms;
        program.sweep();
        machine.tables.sweep();
        machine.database().sweep(bag);
        if (atoms.inUse > atoms.sweepAt) {
            atoms.beginMarks();
            program.markAtoms();
            machine.tables.markAtoms();
            machine.database().markAtoms();
            atoms.markCells(terms.cells, terms.top);
            atoms.sweep();
        }
    }

    private void keepBall() {
        int top = terms.top;
        writer.begin(RESULT_SIZE);
        writer.write(machine.ballThrown(), 0);
        terms.top = top;
        if (writer.size > ballText.length) {
            ballText = Arrays.copyOf(ballText, writer.size);
        }
        System.arraycopy(writer.text, 0, ballText, 0, writer.size);
        ballSize = writer.size;
    }

    public int query() {
        int n = takeTape();
        endQuery();
        terms.top = 0;
        sweep();
        reader.open(tape, n);
        long goal = reader.readWhole();
        if (goal == NONE) {
            terms.top = 0;
            return -1 - reader.place;
        }
        keepVariables();
        machine.begin(goal, limit);
        running = true;
        latest = -1;
        answers = 0;
        return variableCount;
    }

    private void keepVariables() {
        variableCount = 0;
        int size = 0;
        for (int i = 0; i < reader.variableCount; i++) {
            int from = reader.variables[3 * i];
            int n = reader.variables[3 * i + 1];
            if (tape[from] != '_') {
                roomForVariable(size + n);
                System.arraycopy(tape, from, names, size, n);
                variables[3 * variableCount] = size;
                variables[3 * variableCount + 1] = n;
                variables[3 * variableCount + 2] = reader.variables[3 * i + 2];
                variableCount++;
                size += n;
            }
        }
    }

    private void roomForVariable(int bytes) {
        if (3 * variableCount + 3 > variables.length) {
            variables = Arrays.copyOf(variables, variables.length * 2);
        }
        if (bytes > names.length) {
            names = Arrays.copyOf(names, Math.max(bytes, names.length * 2));
        }
    }

    public int next() throws IllegalStateException {
        if (!running) {
            throw new IllegalStateException("there is no query");
        }
        latest = machine.solve();
        if (latest == ANSWER) {
            answers++;
        } else {
            endRun(latest);
        }
        return latest;
    }

    public int value(int i) throws IllegalArgumentException, IllegalStateException {
        if (i < 0 || i >= variableCount) {
            throw new IllegalArgumentException("there is no such variable");
        }
        if (!running || latest != ANSWER) {
            throw new IllegalStateException("there is no answer");
        }
        writer.begin(RESULT_SIZE);
        writer.write(Terms.ref(variables[3 * i + 2]), 0);
        return setResult(writer.text, 0, writer.size);
    }

    private int setResult(byte[] text, int from, int n) {
        if (n > result.length) {
            result = Arrays.copyOf(result, Math.min(RESULT_SIZE, Math.max(n, result.length * 2)));
        }
        System.arraycopy(text, from, result, 0, n);
        resultSize = n;
        return n;
    }

    public int variable(int i) throws IllegalArgumentException {
        if (i < 0 || i >= variableCount) {
            throw new IllegalArgumentException("there is no such variable");
        }
        int from = variables[3 * i];
        int n = variables[3 * i + 1];
        return setResult(names, from, n);
    }

    public int ball() {
        return setResult(ballText, 0, ballSize);
    }

    public int term(int how) throws IllegalArgumentException {
        int n = takeTape();
        if (how < 0 || how > 2) {
            throw new IllegalArgumentException("there is no such way to write");
        }
        int top = terms.top;
        reader.open(tape, n);
        long read = reader.readWhole();
        if (read != NONE) {
            writer.begin(RESULT_SIZE);
            writer.write(read, how);
        }
        terms.top = top;
        return read == NONE ? -1 - reader.place : setResult(writer.text, 0, writer.size);
    }

    public int listing() {
        int top = terms.top;
        reader.open(tape, takeTape());
        long read = reader.readWhole();
        long functor = read == NONE ? NONE : machine.database().functorTold(read);
        terms.top = top;
        if (functor == NONE) {
            return -2;
        }
        int p = program.find(functor);
        if (!program.isKnown(p) || program.isFixed(p)) {
            return -1;
        }
        int n = 0;
        writer.begin(RESULT_SIZE);
        int c = program.firstOf(p, program.stamp);
        for (int i = 0; i < LOOPS && c >= 0; i++) {
            writeClause(program.blockOf(c));
            terms.top = top;
            n++;
            c = program.nextOf(c, program.stamp);
        }
        setResult(writer.text, 0, writer.size);
        return n;
    }

    private void writeClause(int block) {
        Kept code = program.code;
        int base = code.open(block);
        long head = code.build(base, 0);
        long body = code.build(base, 0);
        writer.write(body == YES ? head : terms.struct(A_NECK, head, body), 0);
        writer.put('.');
        writer.put(10);
    }

    public int limit(int n) throws IllegalArgumentException {
        if (n < LEAST_LIMIT || n > MOST_LIMIT) {
            throw new IllegalArgumentException("there is no such limit");
        }
        int before = limit;
        limit = n;
        return before;
    }

    public long word(int i) throws IllegalArgumentException {
        if (i < 0 || i >= resultSize) {
            throw new IllegalArgumentException("RESULT has no such byte");
        }
        return eightBytes(result, resultSize, i);
    }

    private static long eightBytes(byte[] text, int size, int from) {
        long bytes = 0;
        for (int i = from; i < from + 8; i++) {
            bytes = bytes << 8 | (i < size ? text[i] & 255 : 0);
        }
        return bytes;
    }

    public long out(int i) throws IllegalArgumentException {
        Texts texts = machine.texts();
        if (i < 0 || i >= texts.outSize) {
            throw new IllegalArgumentException("OUT has no such byte");
        }
        return eightBytes(texts.out, texts.outSize, i);
    }

    public int clear() {
        int n = machine.texts().outSize;
        machine.texts().outSize = 0;
        return n;
    }

    public void reset() {
        endQuery();
        terms.atoms.backToFixed();
        terms.atoms.firstOperators();
        program.backToFixed();
        machine.tables.clearAll();
        machine.database().clearAll();
        machine.texts().outSize = 0;
        terms.top = 0;
        terms.work = 0;
        limit = FIRST_LIMIT;
        latest = -1;
        answers = 0;
        variableCount = 0;
        errors = 0;
        failures = 0;
        ballSize = 0;
    }

    public int count(int what) {
        switch (what) {
            case 0:
                return tapeSize;
            case 1:
                return resultSize;
            case 2:
                return machine.texts().outSize;
            case 3:
                return program.clauseCount;
            case 4:
                return program.knownCount;
            case 5:
                return terms.work;
            case 6:
                return answers;
            case 7:
                return terms.atoms.opCount;
            case 8:
                return machine.tables.tableCount;
            case 9:
                return machine.tables.answerCount;
            case 10:
                return errors;
            case 11:
                return failures;
            case 12:
                return running ? 1 : 0;
            default:
                return -1;
        }
    }

    /** The atoms, each text once and known by a number, and the operators among them. */
    static final class Atoms {
        byte[] pool = new byte[4096];
        int poolTop;
        byte[] sparePool = new byte[4096];
        int[] start = new int[512];
        int[] size = new int[512];
        int[] link = new int[512];
        final int[] bucket = new int[BUCKETS];
        private boolean[] marked = new boolean[512];
        int count;
        int free = -1;
        int inUse;
        int sweepAt = SWEEP_ATOMS;
        int fixed;
        int fixedPool;
        final int[] opName = new int[MOST_OPERATORS];
        final int[] opType = new int[MOST_OPERATORS];
        final int[] opStrength = new int[MOST_OPERATORS];
        int opCount;

        Atoms() {
            Arrays.fill(bucket, -1);
        }

        /** The number of the atom with this text, made if there is none yet. */
        int intern(byte[] text, int from, int n) {
            int h = n;
            for (int i = 0; i < n; i++) {
                h = h * 31 + text[from + i];
            }
            h &= BUCKETS - 1;
            for (int a = bucket[h], i = 0; a >= 0 && i < LOOPS; a = link[a], i++) {
                int k = size[a] == n ? 0 : -1;
                while (k >= 0 && k < n) {
                    k = pool[start[a] + k] == text[from + k] ? k + 1 : -1;
                }
                if (k >= 0) {
                    return a;
                }
            }
            int atom = free;
            if (atom >= 0) {
                free = link[atom];
            } else {
                atom = count++;
                if (count > start.length) {
                    start = Arrays.copyOf(start, count * 2);
                    size = Arrays.copyOf(size, count * 2);
                    link = Arrays.copyOf(link, count * 2);
                }
            }
            if (poolTop + n > pool.length) {
                pool = Arrays.copyOf(pool, Math.max(pool.length * 2, poolTop + n));
            }
            System.arraycopy(text, from, pool, poolTop, n);
            start[atom] = poolTop;
            size[atom] = n;
            poolTop += n;
            link[atom] = bucket[h];
            bucket[h] = atom;
            inUse++;
            return atom;
        }

        /** Interns the words of a text, blanks between them. */
        void internWords(String words) {
            byte[] text = new byte[words.length()];
            int n = 0;
            for (int i = 0; i <= words.length(); i++) {
                char c = i < words.length() ? words.charAt(i) : ' ';
                if (c != ' ') {
                    text[n++] = (byte) c;
                } else if (n > 0) {
                    intern(text, 0, n);
                    n = 0;
                }
            }
        }

        int byteOf(int atom, int i) {
            return pool[start[atom] + i];
        }

        /** What is here now stays for good; all later atoms may go. */
        void fix() {
            fixed = count;
            fixedPool = poolTop;
        }

        void backToFixed() {
            count = fixed;
            poolTop = fixedPool;
            inUse = fixed;
            free = -1;
            sweepAt = SWEEP_ATOMS;
            rebuild();
        }

        private void rebuild() {
            Arrays.fill(bucket, -1);
            for (int a = 0; a < count; a++) {
                if (size[a] >= 0) {
                    int h = size[a];
                    for (int i = 0; i < size[a]; i++) {
                        h = h * 31 + pool[start[a] + i];
                    }
                    h &= BUCKETS - 1;
                    link[a] = bucket[h];
                    bucket[h] = a;
                }
            }
        }

        void beginMarks() {
            if (marked.length < count) {
                marked = new boolean[start.length];
            }
        }

        void mark(long atom) {
            if (atom >= 0 && atom < count) {
                marked[(int) atom] = true;
            }
        }

        /** Marks whatever may be an atom in these cells (a long integer may look like one: no harm). */
        void markCells(long[] cells, int n) {
            for (int i = 0; i < n && i < cells.length; i++) {
                int tag = (int) (cells[i] & 7);
                if (tag == ATOM) {
                    mark(cells[i] >> 3);
                } else if (tag == FUN) {
                    mark(cells[i] >> 11);
                }
            }
        }

        /** Gives free all atoms that are not marked, and closes the gaps in the pool. */
        void sweep() {
            if (sparePool.length < pool.length) {
                sparePool = new byte[pool.length];
            }
            int to = 0;
            free = -1;
            inUse = 0;
            for (int a = 0; a < count; a++) {
                if (size[a] >= 0 && (a < fixed || marked[a])) {
                    System.arraycopy(pool, start[a], sparePool, to, size[a]);
                    start[a] = to;
                    to += size[a];
                    inUse++;
                } else {
                    size[a] = -1;
                }
                marked[a] = false;
            }
            byte[] other = pool;
            pool = sparePool;
            sparePool = other;
            poolTop = to;
            sweepAt = Math.max(SWEEP_ATOMS, 2 * inUse);
            rebuild();
            for (int a = count - 1; a >= fixed; a--) {
                if (size[a] < 0) {
                    link[a] = free;
                    free = a;
                }
            }
        }

        /** The operators there are at first: strength, type and names of each row. */
        void firstOperators() {
            opCount = 0;
            addOperators(1200, A_XFX, ":- -->");
            addOperators(1200, A_FX, ":- ?-");
            addOperators(1150, A_FX, "dynamic table");
            addOperators(1100, A_XFY, ";");
            addOperators(1050, A_XFY, "-> *->");
            addOperators(1000, A_XFY, ",");
            addOperators(900, A_FY, "\\+");
            addOperators(700, A_XFX, "= \\= == \\== @< @> @=< @>= is =:= =\\= < > =< >= =..");
            addOperators(500, A_YFX, "+ - /\\ \\/");
            addOperators(400, A_YFX, "* / // mod rem div << >>");
            addOperators(200, A_XFY, "^ **");
            addOperators(200, A_FY, "- + \\");
        }

        private void addOperators(int strength, int type, String words) {
            byte[] text = new byte[words.length()];
            int n = 0;
            for (int i = 0; i <= words.length(); i++) {
                char c = i < words.length() ? words.charAt(i) : ' ';
                if (c != ' ') {
                    text[n++] = (byte) c;
                } else if (n > 0) {
                    setOperator(strength, type, intern(text, 0, n));
                    n = 0;
                }
            }
        }

        /** The place of an operator with two arguments in the row, or -1. */
        int infix(int atom) {
            for (int i = 0; i < opCount; i++) {
                if (opName[i] == atom && opType[i] < A_FX) {
                    return i;
                }
            }
            return -1;
        }

        /** The place of an operator with one argument in the row, or -1. */
        int prefix(int atom) {
            for (int i = 0; i < opCount; i++) {
                if (opName[i] == atom && opType[i] >= A_FX) {
                    return i;
                }
            }
            return -1;
        }

        boolean isOperator(int atom) {
            for (int i = 0; i < opCount; i++) {
                if (opName[i] == atom) {
                    return true;
                }
            }
            return false;
        }

        /** False if there is no place for a new one. */
        boolean setOperator(int strength, int type, int atom) {
            int at = type >= A_FX ? prefix(atom) : infix(atom);
            if (at < 0) {
                if (strength == 0) {
                    return true;
                }
                if (opCount >= MOST_OPERATORS) {
                    return false;
                }
                at = opCount++;
            }
            if (strength == 0) {
                removeOperator(at);
                return true;
            }
            opName[at] = atom;
            opType[at] = type;
            opStrength[at] = strength;
            return true;
        }

        private void removeOperator(int at) {
            opCount--;
            for (int i = at; i < opCount; i++) {
                opName[i] = opName[i + 1];
                opType[i] = opType[i + 1];
                opStrength[i] = opStrength[i + 1];
            }
        }

        /** The most that may stand left of infix operator i. */
        int leftStrength(int i) {
            return opType[i] == A_YFX ? opStrength[i] : opStrength[i] - 1;
        }

        /** The most that may stand right of infix operator i, or behind prefix operator i. */
        int rightStrength(int i) {
            return opType[i] == A_XFY || opType[i] == A_FY ? opStrength[i] : opStrength[i] - 1;
        }
    }

    /** The terms of the present query in one row of cells, with the trail that undoes bindings, and the WORK. */
    static final class Terms {
        final Atoms atoms;
        long[] cells = new long[8192];
        int top;
        int[] trail = new int[1024];
        long[] trailOld = new long[1024];
        int trailTop;
        /** What backtracking restores beside variables: values of keys, then goals that WAIT. */
        long[] held = new long[HELD_WAITS + 96];
        /** ROOM of all values that are kept: those that stand, and those that will stand again. */
        int valueRoom;
        int[] walk = new int[256];
        int[] pairs = new int[384];
        int work;
        int limit = FIRST_LIMIT;
        boolean metered;
        boolean spent;
        /** What is thrown, until it is dealt with. */
        long ball = NONE;

        Terms(Atoms atoms) {
            this.atoms = atoms;
            Arrays.fill(held, NONE);
        }

        static int tag(long cell) {
            return (int) (cell & 7);
        }

        static int at(long cell) {
            return (int) (cell >> 3);
        }

        static long ref(int address) {
            return (long) address << 3;
        }

        static long atom(int number) {
            return (long) number << 3 | ATOM;
        }

        static long functor(int name, int arity) {
            return ((long) name << 8 | arity) << 3 | FUN;
        }

        static int arityOf(long functor) {
            return (int) (functor >> 3) & 255;
        }

        static int nameOf(long functor) {
            return (int) (functor >> 11);
        }

        boolean charge(int n) {
            if (!metered) {
                return true;
            }
            if (n > limit - work) {
                work = limit + 1;
                spent = true;
                return false;
            }
            work += n;
            return true;
        }

        /** How many parts or bytes may still be paid for. */
        int left() {
            return metered ? Math.max(limit - work, 0) : UNMETERED;
        }

        int alloc(int n) {
            int need = top + n;
            if (need > cells.length) {
                cells = Arrays.copyOf(cells, Math.max(need, cells.length * 2));
            }
            int address = top;
            top = need;
            return address;
        }

        long newVariable() {
            int a = alloc(1);
            cells[a] = (long) a << 3;
            return cells[a];
        }

        long integer(long value) {
            long cell = value << 3 | INT;
            if (cell >> 3 == value) {
                return cell;
            }
            int a = alloc(1);
            cells[a] = value;
            return (long) a << 3 | BIG;
        }

        static boolean isInteger(long cell) {
            return (cell & 7) == INT || (cell & 7) == BIG;
        }

        static boolean isVariable(long cell) {
            return (cell & 7) == REF;
        }

        static boolean isAtom(long cell) {
            return (cell & 7) == ATOM;
        }

        static boolean isCompound(long cell) {
            return (cell & 7) == STR;
        }

        long valueOf(long cell) {
            return (cell & 7) == BIG ? cells[(int) (cell >> 3)] : cell >> 3;
        }

        long deref(long cell) {
            long c = cell;
            for (int i = 0; i < LOOPS && (c & 7) == REF; i++) {
                long next = cells[(int) (c >> 3)];
                if (next == c) {
                    return c;
                }
                c = next;
            }
            return c;
        }

        /** The functor of a compound term, NONE of others. */
        long functorOf(long cell) {
            return (cell & 7) == STR ? cells[(int) (cell >> 3)] : NONE;
        }

        boolean hasFunctor(long cell, int name, int arity) {
            return (cell & 7) == STR && cells[(int) (cell >> 3)] == (((long) name << 8 | arity) << 3 | FUN);
        }

        /** Argument i, from 1, of a compound term. */
        long argument(long compound, int i) {
            long c = cells[(int) (compound >> 3) + i];
            for (int k = 0; k < LOOPS && (c & 7) == REF; k++) {
                long next = cells[(int) (c >> 3)];
                if (next == c) {
                    return c;
                }
                c = next;
            }
            return c;
        }

        long struct(int name, long a) {
            int s = alloc(2);
            cells[s] = ((long) name << 8 | 1) << 3 | FUN;
            cells[s + 1] = a;
            return (long) s << 3 | STR;
        }

        long struct(int name, long a, long b) {
            int s = alloc(3);
            cells[s] = ((long) name << 8 | 2) << 3 | FUN;
            cells[s + 1] = a;
            cells[s + 2] = b;
            return (long) s << 3 | STR;
        }

        /** N/A of a functor. */
        long indicator(long functor) {
            int s = alloc(3);
            cells[s] = ((long) A_SLASH << 8 | 2) << 3 | FUN;
            cells[s + 1] = functor >> 11 << 3 | ATOM;
            cells[s + 2] = (functor >> 3 & 255) << 3 | INT;
            return (long) s << 3 | STR;
        }

        /** The functor of a goal, an atom's with no arguments. */
        long goalFunctor(long goal) {
            return (goal & 7) == ATOM ? goal >> 3 << 11 | FUN : cells[(int) (goal >> 3)];
        }

        void bind(long variable, long value) {
            if (trailTop == trail.length) {
                trail = Arrays.copyOf(trail, trailTop * 2);
                trailOld = Arrays.copyOf(trailOld, trailTop * 2);
            }
            int a = (int) (variable >> 3);
            cells[a] = value;
            trail[trailTop++] = a << 1;
        }

        /** Changes what is held, so that it is as before after backtracking. */
        void hold(int index, long value) {
            if (trailTop == trail.length) {
                trail = Arrays.copyOf(trail, trailTop * 2);
                trailOld = Arrays.copyOf(trailOld, trailTop * 2);
            }
            trail[trailTop] = index << 1 | 1;
            trailOld[trailTop++] = held[index];
            held[index] = value;
        }

        void undo(int mark) {
            for (int i = trailTop; i > mark; i--) {
                int what = trail[i - 1];
                if ((what & 1) == 0) {
                    cells[what >> 1] = (long) (what >> 1) << 3;
                } else {
                    putBack(what >> 1, trailOld[i - 1]);
                }
            }
            trailTop = mark;
        }

        /** What was held before is held again; a value that was kept since goes. */
        private void putBack(int index, long before) {
            if (index < HELD_WAITS && (held[index] & 7) == VARN) {
                valueRoom -= (int) (held[index] >> 35);
            }
            held[index] = before;
        }

        /** How the value of a key is held that is kept: by its block and its ROOM. */
        static long keptValue(int block, int room) {
            return ((long) room << 32 | block) << 3 | VARN;
        }

        /** ROOM of the value of a key, if it is one that is kept. */
        static int keptRoom(long value) {
            return (value & 7) == VARN ? (int) (value >> 35) : 0;
        }

        /** The query is over: keys get back what they had. */
        void releaseValues() {
            for (int i = trailTop; i > 0; i--) {
                int what = trail[i - 1];
                if ((what & 1) != 0 && what >> 1 < HELD_WAITS) {
                    putBack(what >> 1, trailOld[i - 1]);
                }
            }
            trailTop = 0;
        }

        void roomForWalk(int sp) {
            if (sp + 2 > walk.length) {
                walk = Arrays.copyOf(walk, walk.length * 2);
            }
        }

        /** The occurs check: true if the variable is not in the term. */
        boolean absent(long variable, long term) {
            int sp = 0;
            long t = term;
            for (int i = 0; i < LOOPS; i++) {
                if (work >= limit) {
                    work = limit + 1;
                    spent = true;
                    return false;
                }
                work++;
                for (int k = 0; k < LOOPS && (t & 7) == REF && cells[(int) (t >> 3)] != t; k++) {
                    t = cells[(int) (t >> 3)];
                }
                if (t == variable) {
                    return false;
                }
                if ((t & 7) == STR) {
                    if (sp + 2 > walk.length) {
                        walk = Arrays.copyOf(walk, walk.length * 2);
                    }
                    int s = (int) (t >> 3);
                    walk[sp] = s + 1;
                    walk[sp + 1] = (int) (cells[s] >> 3) & 255;
                    sp += 2;
                }
                if (sp == 0) {
                    return true;
                }
                int next = walk[sp - 2]++;
                if (--walk[sp - 1] == 0) {
                    sp -= 2;
                }
                t = cells[next];
            }
            return false;
        }

        /** Binds a variable to what is none, if it is not in it. */
        boolean bindChecked(long variable, long value) {
            if (!absent(variable, value)) {
                return false;
            }
            bind(variable, value);
            return true;
        }

        boolean unify(long a, long b) {
            int sp = 0;
            long x = a;
            long y = b;
            for (int i = 0; i < LOOPS; i++) {
                if (!charge(1)) {
                    return false;
                }
                x = deref(x);
                y = deref(y);
                if ((x & 7) == REF || (y & 7) == REF) {
                    boolean both = (x & 7) == REF && (y & 7) == REF;
                    long variable = both ? Math.max(x, y) : (x & 7) == REF ? x : y;
                    long value = both ? Math.min(x, y) : (x & 7) == REF ? y : x;
                    if (!both && !absent(variable, value)) {
                        return false;
                    }
                    if (x != y) {
                        bind(variable, value);
                    }
                } else if ((x & 7) == STR && (y & 7) == STR && cells[(int) (x >> 3)] == cells[(int) (y >> 3)]) {
                    if (sp + 3 > pairs.length) {
                        pairs = Arrays.copyOf(pairs, pairs.length * 2);
                    }
                    pairs[sp] = (int) (x >> 3) + 1;
                    pairs[sp + 1] = (int) (y >> 3) + 1;
                    pairs[sp + 2] = (int) (cells[(int) (x >> 3)] >> 3) & 255;
                    sp += 3;
                } else if (x != y && ((x & 7) != BIG || (y & 7) != BIG
                        || cells[(int) (x >> 3)] != cells[(int) (y >> 3)])) {
                    return false;
                }
                if (sp == 0) {
                    return true;
                }
                x = cells[pairs[sp - 3]++];
                y = cells[pairs[sp - 2]++];
                if (--pairs[sp - 1] == 0) {
                    sp -= 3;
                }
            }
            return false;
        }

        /** How two parts stand to one another; of two compound terms with one functor: 0. */
        private int compareParts(long x, long y) {
            int tag = (int) (x & 7);
            int other = (int) (y & 7);
            int rank = tag == REF ? 0 : tag == ATOM ? 2 : tag == STR ? 3 : 1;
            int otherRank = other == REF ? 0 : other == ATOM ? 2 : other == STR ? 3 : 1;
            if (rank != otherRank || x == y) {
                return rank - otherRank;
            }
            if (rank < 2) {
                long a = tag == BIG ? cells[(int) (x >> 3)] : x >> 3;
                long b = other == BIG ? cells[(int) (y >> 3)] : y >> 3;
                return a < b ? -1 : a > b ? 1 : 0;
            }
            long f = rank == 2 ? x >> 3 << 11 : cells[(int) (x >> 3)];
            long g = rank == 2 ? y >> 3 << 11 : cells[(int) (y >> 3)];
            int d = ((int) (f >> 3) & 255) - ((int) (g >> 3) & 255);
            if (d != 0 || f == g) {
                return d;
            }
            int one = (int) (f >> 11);
            int two = (int) (g >> 11);
            int n = Math.min(atoms.size[one], atoms.size[two]);
            for (int i = 0; i < n; i++) {
                d = atoms.pool[atoms.start[one] + i] - atoms.pool[atoms.start[two] + i];
                if (d != 0) {
                    return d;
                }
            }
            return atoms.size[one] - atoms.size[two];
        }

        /** Below 0, 0 or above it by the ORDER; what it answers when WORK is spent is of no use. */
        int compareTerms(long a, long b) {
            int sp = 0;
            long x = a;
            long y = b;
            for (int i = 0; i < LOOPS; i++) {
                if (!charge(1)) {
                    return 0;
                }
                x = deref(x);
                y = deref(y);
                int order = compareParts(x, y);
                if (order != 0) {
                    return order;
                }
                if ((x & 7) == STR) {
                    if (sp + 3 > pairs.length) {
                        pairs = Arrays.copyOf(pairs, pairs.length * 2);
                    }
                    pairs[sp] = at(x) + 1;
                    pairs[sp + 1] = at(y) + 1;
                    pairs[sp + 2] = arityOf(cells[at(x)]);
                    sp += 3;
                }
                if (sp == 0) {
                    return 0;
                }
                x = cells[pairs[sp - 3]++];
                y = cells[pairs[sp - 2]++];
                if (--pairs[sp - 1] == 0) {
                    sp -= 3;
                }
            }
            return 0;
        }

        /** How many elements a list has, -1 if it is open, -2 if it ends in something else; free of WORK. */
        int listLength(long list) {
            long t = list;
            int n = 0;
            for (int i = 0; i < LOOPS; i++) {
                if ((t & 7) == STR && cells[(int) (t >> 3)] == LIST_FUNCTOR) {
                    n++;
                    t = cells[(int) (t >> 3) + 2];
                } else if ((t & 7) == REF && cells[(int) (t >> 3)] != t) {
                    t = cells[(int) (t >> 3)];
                } else {
                    break;
                }
            }
            if (t == NIL) {
                return n;
            }
            return (t & 7) == REF ? -1 : -2;
        }

        /** Throws error(E, _), E an atom or, with so many arguments, compound. */
        private boolean raise(int name, int arity, long a, long b, long c) {
            int s = top;
            if (s + 8 > cells.length) {
                cells = Arrays.copyOf(cells, cells.length * 2);
            }
            top = s + 4 + arity;
            cells[s] = ((long) A_ERROR << 8 | 2) << 3 | FUN;
            cells[s + 1] = arity == 0 ? (long) name << 3 | ATOM : (long) (s + 3) << 3 | STR;
            cells[s + 2] = (long) (s + 2) << 3;
            cells[s + 3] = ((long) name << 8 | arity) << 3 | FUN;
            cells[s + 4] = a;
            cells[s + 5] = b;
            cells[s + 6] = c;
            ball = (long) s << 3 | STR;
            return false;
        }

        boolean instantiationError() {
            return raise(A_INSTANTIATION, 0, NONE, NONE, NONE);
        }

        boolean typeError(int type, long culprit) {
            return raise(A_TYPE, 2, (long) type << 3 | ATOM, culprit, NONE);
        }

        boolean domainError(int domain, long culprit) {
            return raise(A_DOMAIN, 2, (long) domain << 3 | ATOM, culprit, NONE);
        }

        boolean existenceError(int kind, long culprit) {
            return raise(A_EXISTENCE, 2, (long) kind << 3 | ATOM, culprit, NONE);
        }

        boolean permissionError(int action, int kind, long culprit) {
            return raise(A_PERMISSION, 3, (long) action << 3 | ATOM, (long) kind << 3 | ATOM, culprit);
        }

        boolean representationError(int what) {
            return raise(A_REPRESENTATION, 1, (long) what << 3 | ATOM, NONE, NONE);
        }

        boolean evaluationError(int what) {
            return raise(A_EVALUATION, 1, (long) what << 3 | ATOM, NONE, NONE);
        }

        boolean resourceError(int what) {
            return raise(A_RESOURCE, 1, (long) what << 3 | ATOM, NONE, NONE);
        }

        boolean syntaxError(long what) {
            return raise(A_SYNTAX, 1, what, NONE, NONE);
        }
    }

    /**
     * Terms that are kept beside the query, part behind part as they are written, their variables numbered by their
     * first places. A block: parts and variables, ROOM and cells, then the cells.
     */
    static final class Kept {
        private final Terms terms;
        long[] cells;
        int top;
        int pos;
        private int parts;
        private int room;
        private int variables;
        /** How many variables of a head have had a place; they are numbered in the order of their first places. */
        private int seen;
        private int[] stack = new int[64];

        Kept(Terms terms, int size) {
            this.terms = terms;
            cells = new long[Math.max(size, 16)];
        }

        int partsOf(int block) {
            return (int) (cells[block] >> 32);
        }

        int roomOf(int block) {
            return (int) (cells[block + 1] >> 32);
        }

        /** Copies a block of another store behind all that is here. */
        int append(Kept from, int block) {
            int n = (int) from.cells[block + 1] + 2;
            if (top + n > cells.length) {
                cells = Arrays.copyOf(cells, Math.max(cells.length * 2, top + n));
            }
            System.arraycopy(from.cells, block, cells, top, n);
            top += n;
            return top - n;
        }

        void swap(Kept other) {
            long[] mine = cells;
            cells = other.cells;
            other.cells = mine;
            int n = top;
            top = other.top;
            other.top = n;
        }

        /** Copies one term, or two that share variables: where the block is, or -1 if WORK is spent. */
        int keep(long first, long second) {
            int block = top;
            int mark = terms.trailTop;
            parts = 0;
            room = 0;
            variables = 0;
            if (block + 2 > cells.length) {
                cells = Arrays.copyOf(cells, cells.length * 2);
            }
            top = block + 2;
            boolean done = flatten(first) && (second == NONE || flatten(second));
            terms.undo(mark);
            if (!done) {
                top = block;
                return -1;
            }
            cells[block] = (long) parts << 32 | variables;
            cells[block + 1] = (long) room << 32 | (top - block - 2);
            return block;
        }

        private boolean flatten(long term) {
            int sp = 0;
            long t = term;
            for (int i = 0; i < LOOPS; i++) {
                if (!terms.charge(1)) {
                    return false;
                }
                t = terms.deref(t);
                int tag = (int) (t & 7);
                long c = t;
                if (tag == REF) {
                    c = (long) variables++ << 3 | VARN;
                    terms.bind(t, c);
                } else if (tag == STR) {
                    int s = (int) (t >> 3);
                    c = terms.cells[s];
                    stack = sp + 2 > stack.length ? Arrays.copyOf(stack, stack.length * 2) : stack;
                    stack[sp] = s + 1;
                    stack[sp + 1] = (int) (c >> 3) & 255;
                    sp += 2;
                }
                parts++;
                room += tag == ATOM ? 1 + terms.atoms.size[(int) (c >> 3)] / 8
                        : tag == STR ? 1 + terms.atoms.size[(int) (c >> 11)] / 8 : 1;
                cells = top + 2 > cells.length ? Arrays.copyOf(cells, cells.length * 2) : cells;
                cells[top++] = c;
                if (tag == BIG) {
                    cells[top++] = terms.cells[(int) (t >> 3)];
                }
                if (sp == 0) {
                    return true;
                }
                int next = stack[sp - 2]++;
                if (--stack[sp - 1] == 0) {
                    sp -= 2;
                }
                t = terms.cells[next];
            }
            return false;
        }

        /** Makes new variables for a block that is to be built; its first cell is next. */
        int open(int block) {
            int n = (int) cells[block];
            int base = terms.alloc(n);
            for (int i = 0; i < n; i++) {
                terms.cells[base + i] = (long) (base + i) << 3;
            }
            pos = block + 2;
            return base;
        }

        /** The term of a block as a copy, or NONE if WORK is spent. */
        long back(int block) {
            if (!terms.charge(partsOf(block))) {
                return NONE;
            }
            return build(open(block), 0);
        }

        /** Builds the term that begins at pos, its variables from base on; the stack is in use below sp. */
        long build(int base, int low) {
            int sp = low;
            int slot = -1;
            long root = NONE;
            for (int i = 0; i < LOOPS; i++) {
                long c = cells[pos++];
                long part = c;
                if ((c & 7) == VARN) {
                    int n = (int) (c >> 3);
                    seen = Math.max(seen, n + 1);
                    part = terms.cells[base + n];
                } else if ((c & 7) == FUN) {
                    int arity = (int) (c >> 3) & 255;
                    int s = terms.alloc(1 + arity);
                    terms.cells[s] = c;
                    part = (long) s << 3 | STR;
                    stack = sp + 2 > stack.length ? Arrays.copyOf(stack, stack.length * 2) : stack;
                    stack[sp] = s + 1;
                    stack[sp + 1] = arity;
                    sp += 2;
                } else if ((c & 7) == BIG) {
                    int raw = terms.alloc(1);
                    terms.cells[raw] = cells[pos++];
                    part = (long) raw << 3 | BIG;
                }
                if (slot < 0) {
                    root = part;
                } else {
                    terms.cells[slot] = part;
                }
                if (sp == low) {
                    return root;
                }
                slot = stack[sp - 2]++;
                if (--stack[sp - 1] == 0) {
                    sp -= 2;
                }
            }
            return root;
        }

        /** Unifies the arguments of a goal with those of the head at the front of a block; pos is then behind it. */
        boolean unifyHead(int base, long goal) {
            pos++;
            seen = 0;
            if ((goal & 7) != STR) {
                return true;
            }
            int sp = 2;
            stack[0] = (int) (goal >> 3) + 1;
            stack[1] = (int) (terms.cells[(int) (goal >> 3)] >> 3) & 255;
            for (int i = 0; i < LOOPS && sp > 0; i++) {
                int slot = stack[sp - 2]++;
                if (--stack[sp - 1] == 0) {
                    sp -= 2;
                }
                long part = terms.deref(terms.cells[slot]);
                long h = cells[pos];
                if ((h & 7) == FUN && (part & 7) == STR) {
                    if (!terms.charge(1) || terms.cells[(int) (part >> 3)] != h) {
                        return false;
                    }
                    pos++;
                    stack = sp + 2 > stack.length ? Arrays.copyOf(stack, stack.length * 2) : stack;
                    stack[sp] = (int) (part >> 3) + 1;
                    stack[sp + 1] = (int) (h >> 3) & 255;
                    sp += 2;
                } else if (!unifyHeadPart(base, part, sp)) {
                    return false;
                }
            }
            return true;
        }

        /** One place of the head against a part of the goal, if they are not both compound. */
        private boolean unifyHeadPart(int base, long part, int sp) {
            long h = cells[pos];
            if ((h & 7) == VARN) {
                int n = (int) (h >> 3);
                pos++;
                if (n < seen) {
                    return terms.unify(terms.cells[base + n], part);
                }
                seen = n + 1;
                terms.cells[base + n] = part;
                return terms.charge(1);
            }
            if (!terms.charge(1)) {
                return false;
            }
            if ((part & 7) == REF) {
                return terms.bindChecked(part, build(base, sp));
            }
            pos++;
            if ((h & 7) == BIG) {
                return (part & 7) == BIG && terms.cells[(int) (part >> 3)] == cells[pos++];
            }
            return h == part;
        }

        /** True if the term of a block and this one differ in the names of their variables alone. */
        boolean isVariant(int block, long term) {
            int mark = terms.trailTop;
            int sp = 0;
            long t = term;
            boolean same = true;
            pos = block + 2;
            seen = 0;
            for (int i = 0; i < LOOPS && same; i++) {
                t = terms.deref(t);
                same = terms.charge(1) && samePart(t);
                if (same && (t & 7) == STR) {
                    int s = (int) (t >> 3);
                    stack = sp + 2 > stack.length ? Arrays.copyOf(stack, stack.length * 2) : stack;
                    stack[sp] = s + 1;
                    stack[sp + 1] = (int) (terms.cells[s] >> 3) & 255;
                    sp += 2;
                }
                if (sp == 0) {
                    break;
                }
                int next = stack[sp - 2]++;
                if (--stack[sp - 1] == 0) {
                    sp -= 2;
                }
                t = terms.cells[next];
            }
            terms.undo(mark);
            return same;
        }

        private boolean samePart(long t) {
            long c = cells[pos++];
            if ((c & 7) == VARN) {
                if ((c >> 3) < seen) {
                    return t == c;
                }
                if ((t & 7) != REF) {
                    return false;
                }
                seen++;
                terms.bind(t, c);
                return true;
            }
            if ((c & 7) == FUN) {
                return (t & 7) == STR && terms.cells[(int) (t >> 3)] == c;
            }
            if ((c & 7) == BIG) {
                return (t & 7) == BIG && terms.cells[(int) (t >> 3)] == cells[pos++];
            }
            return t == c;
        }
    }

    /** Reads terms of a text. What can't stand sets place and answers NONE. */
    static final class Reader {
        private final Terms terms;
        private final Atoms atoms;
        /** The text, with bytes 0 behind it, so that it can be looked at a little beyond its end. */
        private byte[] text = new byte[512];
        private int length;
        private int pos;
        private boolean peeked;
        private int kind;
        private int tokenStart;
        private int tokenEnd;
        private int tokenAtom;
        /** Of a number: its value, and whether it is 2^63 (told as a negative one alone). */
        private long number;
        private boolean huge;
        private byte[] decoded = new byte[256];
        private int decodedSize;
        private int escaped;
        private int strength;
        private long[] stack = new long[64];
        private int stackTop;
        /** Of each variable: where its name begins, how long it is, its address. */
        int[] variables = new int[48];
        int variableCount;
        int place;

        Reader(Terms terms) {
            this.terms = terms;
            this.atoms = terms.atoms;
        }

        void open(byte[] bytes, int n) {
            length = Math.max(0, Math.min(n, bytes.length));
            if (length + BEYOND > text.length) {
                text = new byte[Math.max(length + BEYOND, text.length * 2)];
            }
            System.arraycopy(bytes, 0, text, 0, length);
            Arrays.fill(text, length, length + BEYOND, (byte) 0);
            pos = 0;
            peeked = false;
            stackTop = 0;
            variableCount = 0;
            place = 0;
        }

        boolean atEnd() {
            peek();
            return kind == TOKEN_NONE;
        }

        /** The whole text as one term, perhaps with END. */
        long readWhole() {
            variableCount = 0;
            long term = readTerm(1200, 1);
            if (term == NONE) {
                return NONE;
            }
            peek();
            if (kind == TOKEN_END) {
                take();
                peek();
            }
            return kind == TOKEN_NONE ? term : refuse();
        }

        /** The next term and its END. */
        long readClause() {
            variableCount = 0;
            long term = readTerm(1200, 1);
            if (term == NONE) {
                return NONE;
            }
            peek();
            if (kind != TOKEN_END) {
                return refuse();
            }
            take();
            return term;
        }

        /** LAYOUT, perhaps -, and a number up to the end of the text. */
        boolean readNumber(byte[] bytes, int n) {
            open(bytes, n);
            if (!skipLayout()) {
                return false;
            }
            boolean negative = text[pos] == '-';
            if (negative) {
                pos++;
            }
            if (!isDigitAt(pos) || !scanNumber(pos) || tokenEnd != length || huge && !negative) {
                return false;
            }
            number = negative ? -number : number;
            return true;
        }

        long numberRead() {
            return number;
        }

        private long refuse() {
            place = tokenStart;
            return NONE;
        }

        private boolean isDigitAt(int i) {
            return CLASSES[text[i] & 255] == IS_DIGIT;
        }

        /** False, with pos at it, if a comment has no end. */
        private boolean skipLayout() {
            for (int i = 0; i <= length && pos < length; i++) {
                boolean comment = text[pos] == '/' && text[pos + 1] == '*';
                int end = pos + 1;
                if (text[pos] == '%') {
                    while (end < length && text[end - 1] != 10) {
                        end++;
                    }
                } else if (comment) {
                    end = pos + 4;
                    while (end <= length && (text[end - 2] != '*' || text[end - 1] != '/')) {
                        end++;
                    }
                    if (end > length) {
                        return false;
                    }
                } else if (CLASSES[text[pos] & 255] != IS_BLANK) {
                    return true;
                }
                pos = end;
            }
            return true;
        }

        private void take() {
            pos = tokenEnd;
            peeked = false;
        }

        /** Looks at the next token without taking it. */
        private void peek() {
            if (peeked) {
                return;
            }
            peeked = true;
            boolean fits = skipLayout();
            tokenStart = pos;
            tokenEnd = pos + 1;
            if (pos >= length) {
                kind = TOKEN_NONE;
                return;
            }
            switch (fits ? CLASSES[text[pos] & 255] : 0) {
                case IS_SMALL:
                case IS_CAPITAL:
                    kind = scanWord();
                    break;
                case IS_DIGIT:
                    kind = scanNumber(pos) ? TOKEN_NUMBER : TOKEN_BAD;
                    break;
                case IS_SYMBOL:
                    kind = scanSymbols();
                    break;
                case IS_QUOTE:
                    kind = scanQuoted(text[pos]);
                    break;
                case IS_SOLO:
                    kind = scanSolo(1);
                    break;
                case IS_BRACKET:
                    boolean pair = text[pos] == '[' && text[pos + 1] == ']' || text[pos] == '{' && text[pos + 1] == '}';
                    tokenAtom = text[pos];
                    kind = pair && pos + 1 < length ? scanSolo(2) : TOKEN_PUNCTUATION;
                    break;
                default:
                    kind = TOKEN_BAD;
                    break;
            }
        }

        /** A NAME of so many bytes that are nothing else. */
        private int scanSolo(int n) {
            tokenEnd = pos + n;
            tokenAtom = atoms.intern(text, pos, n);
            return TOKEN_NAME;
        }

        private int scanWord() {
            int end = pos + 1;
            while (end < length && CLASSES[text[end] & 255] >= IS_SMALL && CLASSES[text[end] & 255] <= IS_DIGIT) {
                end++;
            }
            tokenEnd = end;
            if (CLASSES[text[pos] & 255] == IS_CAPITAL) {
                return TOKEN_VARIABLE;
            }
            if (end - pos > MOST_BYTES) {
                return TOKEN_BAD;
            }
            tokenAtom = atoms.intern(text, pos, end - pos);
            return TOKEN_NAME;
        }

        private int scanSymbols() {
            int end = pos + 1;
            while (end < length && CLASSES[text[end] & 255] == IS_SYMBOL) {
                end++;
            }
            tokenEnd = end;
            boolean layout = end >= length || CLASSES[text[end] & 255] == IS_BLANK || text[end] == '%';
            if (end - pos == 1 && text[pos] == '.' && layout) {
                return TOKEN_END;
            }
            if (end - pos > MOST_BYTES) {
                return TOKEN_BAD;
            }
            tokenAtom = atoms.intern(text, pos, end - pos);
            return TOKEN_NAME;
        }

        private int scanQuoted(int quote) {
            decodedSize = 0;
            int at = pos + 1;
            for (int i = 0; i <= length && at < length; i++) {
                int c = text[at];
                if (c == quote && text[at + 1] != quote) {
                    tokenEnd = at + 1;
                    if (quote == '"') {
                        return TOKEN_STRING;
                    }
                    tokenAtom = decodedSize > MOST_BYTES ? 0 : atoms.intern(decoded, 0, decodedSize);
                    return decodedSize > MOST_BYTES ? TOKEN_BAD : TOKEN_NAME;
                }
                if (c == '\\') {
                    at = scanEscape(at);
                    if (at < 0) {
                        return TOKEN_BAD;
                    }
                    c = escaped;
                } else if (c >= 32 && c <= 126) {
                    at += c == quote ? 2 : 1;
                } else {
                    return TOKEN_BAD;
                }
                if (decodedSize == decoded.length) {
                    decoded = Arrays.copyOf(decoded, decodedSize * 2);
                }
                decoded[decodedSize++] = (byte) c;
            }
            return TOKEN_BAD;
        }

        /** What \\ at this place stands for is in escaped: where it ends, or -1. */
        private int scanEscape(int at) {
            int c = text[at + 1];
            if (c == 'n' || c == 't') {
                escaped = c == 'n' ? 10 : 9;
                return at + 2;
            }
            if (c == '\\' || c == '\'' || c == '"' || c == '`') {
                escaped = c;
                return at + 2;
            }
            if (c != 'x') {
                return -1;
            }
            int first = DIGITS[text[at + 2] & 255];
            int second = first < 16 ? DIGITS[text[at + 3] & 255] : 99;
            escaped = second < 16 ? first * 16 + second : first;
            int end = second < 16 ? at + 4 : at + 3;
            if (first > 15 || escaped < 1 || escaped > 127 || text[end] != '\\') {
                return -1;
            }
            return end + 1;
        }

        private boolean scanNumber(int at) {
            huge = false;
            int c = text[at + 1];
            if (text[at] != '0' || c != '\'') {
                int base = text[at] != '0' ? 10 : c == 'x' ? 16 : c == 'o' ? 8 : c == 'b' ? 2 : 10;
                if (base != 10 && DIGITS[text[at + 2] & 255] < base) {
                    return scanDigits(at + 2, base);
                }
                return scanDigits(at, 10);
            }
            int code = text[at + 2];
            if (code == '\\') {
                tokenEnd = scanEscape(at + 2);
                number = escaped;
                return tokenEnd >= 0;
            }
            number = code;
            tokenEnd = code == '\'' ? at + 4 : at + 3;
            return code == '\'' ? text[at + 3] == '\'' : code >= 32 && code <= 126;
        }

        private boolean scanDigits(int from, int base) {
            long most = Long.MAX_VALUE / base;
            int rest = (int) (Long.MAX_VALUE % base);
            number = 0;
            int at = from;
            for (int i = from; i < length && DIGITS[text[i] & 255] < base; i++) {
                int d = DIGITS[text[i] & 255];
                boolean fits = number < most || number == most && d <= rest;
                boolean just = number == most && d == rest + 1 || number == most + 1 && d == 0 && rest == base - 1;
                if (huge || !fits && !just) {
                    return false;
                }
                number = number * base + d;
                huge = !fits;
                at = i + 1;
            }
            tokenEnd = at;
            return true;
        }

        private boolean isPunctuation(int c) {
            return kind == TOKEN_PUNCTUATION && tokenAtom == c;
        }

        private void push(long cell) {
            if (stackTop == stack.length) {
                stack = Arrays.copyOf(stack, stackTop * 2);
            }
            stack[stackTop++] = cell;
        }

        /** The infix operator that was peeked at, by its place in the row, or -1. */
        private int infixNext() {
            if (isPunctuation(',')) {
                return atoms.infix(A_COMMA);
            }
            return kind == TOKEN_NAME && tokenAtom != A_COMMA ? atoms.infix(tokenAtom) : -1;
        }

        private long readTerm(int most, int depth) {
            peek();
            if (depth > MOST_DEPTH) {
                return refuse();
            }
            strength = 0;
            // Names are read from here, not from readPrimary, so that each level has three open calls at most.
            long left = kind == TOKEN_NAME ? readName(most, depth) : readPrimary(depth);
            int leftStrength = strength;
            for (int i = 0; i <= length && left != NONE; i++) {
                peek();
                int op = infixNext();
                if (op < 0 || atoms.opStrength[op] > most || leftStrength > atoms.leftStrength(op)) {
                    break;
                }
                int name = atoms.opName[op];
                leftStrength = atoms.opStrength[op];
                take();
                long right = readTerm(atoms.rightStrength(op), depth + 1);
                left = right == NONE ? NONE : terms.struct(name, left, right);
            }
            strength = leftStrength;
            return left;
        }

        private long readPrimary(int depth) {
            if (kind == TOKEN_PUNCTUATION) {
                if (tokenAtom == '[') {
                    return readList(depth);
                }
                return tokenAtom == '(' || tokenAtom == '{' ? readBrackets(tokenAtom, depth) : refuse();
            }
            if (kind == TOKEN_NUMBER && !huge) {
                take();
                return terms.integer(number);
            }
            if (kind == TOKEN_VARIABLE) {
                take();
                return variableAt(tokenStart, tokenEnd - tokenStart);
            }
            if (kind == TOKEN_STRING) {
                take();
                return codes();
            }
            return refuse();
        }

        private long readBrackets(int opening, int depth) {
            take();
            long term = readTerm(1200, depth + 1);
            if (term == NONE) {
                return NONE;
            }
            peek();
            if (!isPunctuation(opening == '(' ? ')' : '}')) {
                return refuse();
            }
            take();
            strength = 0;
            return opening == '(' ? term : terms.struct(A_CURLY, term);
        }

        private long readList(int depth) {
            take();
            int base = stackTop;
            long tail = NIL;
            for (int i = 0; i <= length; i++) {
                long element = readTerm(999, depth + 1);
                if (element == NONE) {
                    return NONE;
                }
                push(element);
                peek();
                if (!isPunctuation(',')) {
                    break;
                }
                take();
            }
            if (isPunctuation('|')) {
                take();
                tail = readTerm(999, depth + 1);
                if (tail == NONE) {
                    return NONE;
                }
                peek();
            }
            if (!isPunctuation(']')) {
                return refuse();
            }
            take();
            for (int i = stackTop; i > base; i--) {
                tail = terms.struct(A_DOT, stack[i - 1], tail);
            }
            stackTop = base;
            strength = 0;
            return tail;
        }

        private long readArguments(int name, int depth) {
            peek();
            take();
            int base = stackTop;
            for (int i = 0; i <= MOST_ARGUMENTS; i++) {
                if (i == MOST_ARGUMENTS) {
                    peek();
                    return refuse();
                }
                long argument = readTerm(999, depth + 1);
                if (argument == NONE) {
                    return NONE;
                }
                push(argument);
                peek();
                if (!isPunctuation(',')) {
                    break;
                }
                take();
            }
            if (!isPunctuation(')')) {
                return refuse();
            }
            take();
            int n = stackTop - base;
            int s = terms.alloc(n + 1);
            terms.cells[s] = ((long) name << 8 | n) << 3 | FUN;
            System.arraycopy(stack, base, terms.cells, s + 1, n);
            stackTop = base;
            strength = 0;
            return (long) s << 3 | STR;
        }

        private long readName(int most, int depth) {
            int name = tokenAtom;
            int at = tokenStart;
            int behind = text[tokenEnd];
            take();
            if (behind == '(') {
                return readArguments(name, depth);
            }
            if (name == A_MINUS && CLASSES[behind & 255] == IS_DIGIT) {
                peek();
                if (kind == TOKEN_NUMBER) {
                    take();
                    return terms.integer(-number);
                }
            }
            int op = atoms.prefix(name);
            if (op >= 0) {
                peek();
            }
            if (op < 0 || endsOperand()) {
                return (long) name << 3 | ATOM;
            }
            int own = atoms.opStrength[op];
            if (own > most) {
                place = at;
                return NONE;
            }
            long operand = readTerm(atoms.rightStrength(op), depth + 1);
            strength = own;
            return operand == NONE ? NONE : terms.struct(name, operand);
        }

        /** Whether what was peeked at can't begin the operand of a prefix operator. */
        private boolean endsOperand() {
            if (kind == TOKEN_NAME) {
                return atoms.infix(tokenAtom) >= 0 && atoms.prefix(tokenAtom) < 0 && text[tokenEnd] != '(';
            }
            if (kind == TOKEN_PUNCTUATION) {
                return tokenAtom != '(' && tokenAtom != '[' && tokenAtom != '{';
            }
            return kind == TOKEN_END || kind == TOKEN_NONE;
        }

        private long codes() {
            long list = NIL;
            for (int i = decodedSize; i > 0; i--) {
                list = terms.struct(A_DOT, terms.integer(decoded[i - 1]), list);
            }
            return list;
        }

        private boolean isNameAt(int from, int n, int other) {
            for (int i = 0; i < n; i++) {
                if (text[from + i] != text[other + i]) {
                    return false;
                }
            }
            return true;
        }

        /** The variable of this name, a new one at its first place. */
        private long variableAt(int from, int n) {
            boolean nameless = n == 1 && text[from] == '_';
            for (int i = 0; i < variableCount && !nameless; i++) {
                if (variables[3 * i + 1] == n && isNameAt(from, n, variables[3 * i])) {
                    return (long) variables[3 * i + 2] << 3;
                }
            }
            long made = terms.newVariable();
            if (nameless) {
                return made;
            }
            if (3 * variableCount + 3 > variables.length) {
                variables = Arrays.copyOf(variables, variables.length * 2);
            }
            variables[3 * variableCount] = from;
            variables[3 * variableCount + 1] = n;
            variables[3 * variableCount + 2] = (int) (made >> 3);
            variableCount++;
            return made;
        }
    }

    /** Writes terms into a text, that is then charged and used, or lost. */
    static final class Writer {
        private final Terms terms;
        private final Atoms atoms;
        byte[] text = new byte[1024];
        int size;
        private int most;
        private boolean full;
        private boolean quoted;
        private boolean operators;
        private int named;
        /** What is still to be written, the next on top. */
        private long[] item = new long[64];
        private int[] info = new int[64];
        private int stackTop;

        Writer(Terms terms) {
            this.terms = terms;
            this.atoms = terms.atoms;
        }

        /** Begins a text of at most so many bytes; what comes behind them is lost. */
        void begin(int bytes) {
            size = 0;
            full = false;
            most = bytes;
        }

        void put(int c) {
            if (size >= most) {
                full = true;
                return;
            }
            if (size == text.length) {
                text = Arrays.copyOf(text, size * 2);
            }
            text[size++] = (byte) c;
        }

        private void push(long what, int how) {
            if (stackTop == item.length) {
                item = Arrays.copyOf(item, stackTop * 2);
                info = Arrays.copyOf(info, stackTop * 2);
            }
            item[stackTop] = what;
            info[stackTop++] = how;
        }

        /** Writes a term behind what is there: how 0 QUOTED, 1 plainly, 2 canonically. */
        void write(long term, int how) {
            quoted = how != 1;
            operators = how != 2;
            named = 0;
            stackTop = 0;
            int mark = terms.trailTop;
            push(term, 1200 << 4 | W_TERM);
            for (int i = 0; i < LOOPS && stackTop > 0 && !full; i++) {
                stackTop--;
                long what = item[stackTop];
                int more = info[stackTop] >> 4;
                switch (info[stackTop] & 15) {
                    case W_BYTE:
                        put(more);
                        break;
                    case W_NAME:
                        writeAtom((int) what);
                        break;
                    case W_ARGUMENTS:
                        writeArguments((int) what, more);
                        break;
                    case W_TAIL:
                        writeTail(terms.deref(what));
                        break;
                    case W_OPERAND:
                        writeTerm(terms.deref(what), more, true);
                        break;
                    default:
                        writeTerm(terms.deref(what), more, false);
                        break;
                }
            }
            terms.undo(mark);
        }

        private void writeArguments(int at, int left) {
            if (left == 0) {
                put(')');
                return;
            }
            put(',');
            push(at + 1, (left - 1) << 4 | W_ARGUMENTS);
            push(terms.cells[at], 999 << 4 | W_TERM);
        }

        private void writeTail(long tail) {
            if (tail == NIL) {
                put(']');
            } else if (terms.hasFunctor(tail, A_DOT, 2)) {
                put(',');
                push(terms.cells[(int) (tail >> 3) + 2], W_TAIL);
                push(terms.cells[(int) (tail >> 3) + 1], 999 << 4 | W_TERM);
            } else {
                put('|');
                push(0, ']' << 4 | W_BYTE);
                push(tail, 999 << 4 | W_TERM);
            }
        }

        private void writeTerm(long t, int strongest, boolean operand) {
            int tag = (int) (t & 7);
            if (tag == STR) {
                pushCompound((int) (t >> 3), strongest);
            } else if (tag == ATOM) {
                boolean brackets = operand && atoms.isOperator((int) (t >> 3));
                if (brackets) {
                    put('(');
                    push(0, ')' << 4 | W_BYTE);
                }
                push(t >> 3, W_NAME);
            } else if (tag == REF || tag == VARN) {
                int number = tag == VARN ? (int) (t >> 3) : ++named;
                if (tag == REF) {
                    terms.bind(t, (long) number << 3 | VARN);
                }
                put('_');
                writeInteger(number);
            } else {
                writeInteger(terms.valueOf(t));
            }
        }

        /** Puts the parts of a compound term to what is to be written, the last first. */
        private void pushCompound(int s, int strongest) {
            int name = (int) (terms.cells[s] >> 11);
            int arity = (int) (terms.cells[s] >> 3) & 255;
            if (name == A_DOT && arity == 2) {
                push(terms.cells[s + 2], W_TAIL);
                push(terms.cells[s + 1], 999 << 4 | W_TERM);
                push(0, '[' << 4 | W_BYTE);
                return;
            }
            if (operators && name == A_CURLY && arity == 1) {
                push(0, '}' << 4 | W_BYTE);
                push(terms.cells[s + 1], 1200 << 4 | W_TERM);
                push(0, '{' << 4 | W_BYTE);
                return;
            }
            int op = !operators ? -1 : arity == 2 ? atoms.infix(name) : arity == 1 ? atoms.prefix(name) : -1;
            if (op < 0) {
                push(s + 2, (arity - 1) << 4 | W_ARGUMENTS);
                push(terms.cells[s + 1], 999 << 4 | W_TERM);
                push(0, '(' << 4 | W_BYTE);
                push(name, W_NAME);
                return;
            }
            boolean brackets = atoms.opStrength[op] > strongest;
            if (brackets) {
                push(0, ')' << 4 | W_BYTE);
            }
            push(terms.cells[s + arity], atoms.rightStrength(op) << 4 | W_OPERAND);
            boolean comma = name == A_COMMA;
            push(0, (comma ? ',' : ' ') << 4 | W_BYTE);
            if (!comma) {
                push(name, W_NAME);
            }
            if (!comma && arity == 2) {
                push(0, ' ' << 4 | W_BYTE);
            }
            if (arity == 2) {
                push(terms.cells[s + 1], atoms.leftStrength(op) << 4 | W_OPERAND);
            }
            if (brackets) {
                push(0, '(' << 4 | W_BYTE);
            }
        }

        /** Digits from the lowest on would come the wrong way round, so the highest power is looked for first. */
        void writeInteger(long value) {
            if (value < 0) {
                put('-');
            }
            // Below 0 there is room for 2^63, above 0 there is not.
            long rest = value < 0 ? value : -value;
            long power = 1;
            for (int i = 0; i < 19 && rest / power <= -10; i++) {
                power *= 10;
            }
            for (int i = 0; i < 20 && power > 0; i++) {
                put((int) ('0' - rest / power));
                rest %= power;
                power /= 10;
            }
        }

        private void writeAtom(int name) {
            int n = atoms.size[name];
            boolean plain = !quoted || readsAsName(name, n);
            if (!plain) {
                put('\'');
            }
            for (int i = 0; i < n; i++) {
                int c = atoms.pool[atoms.start[name] + i];
                if (plain || c >= 32 && c < 127 && c != '\\' && c != '\'') {
                    put(c);
                } else {
                    writeQuotedByte(c);
                }
            }
            if (!plain) {
                put('\'');
            }
        }

        private boolean readsAsName(int name, int n) {
            if (name == A_NIL || name == A_CURLY || name == A_CUT || name == A_SEMI) {
                return true;
            }
            if (n == 0 || name == A_DOT) {
                return false;
            }
            int at = atoms.start[name];
            int first = CLASSES[atoms.pool[at] & 255];
            boolean comment = n > 1 && atoms.pool[at] == '/' && atoms.pool[at + 1] == '*';
            if (first != IS_SYMBOL && first != IS_SMALL || comment) {
                return false;
            }
            for (int i = 1; i < n; i++) {
                int kind = CLASSES[atoms.pool[at + i] & 255];
                if (first == IS_SYMBOL ? kind != IS_SYMBOL : kind < IS_SMALL || kind > IS_DIGIT) {
                    return false;
                }
            }
            return true;
        }

        /** A byte that can't stand for itself between quotes. */
        private void writeQuotedByte(int c) {
            put(c == '\'' ? '\'' : '\\');
            if (c == '\\' || c == '\'') {
                put(c);
            } else if (c == 10 || c == 9) {
                put(c == 10 ? 'n' : 't');
            } else {
                put('x');
                put('0' + (c >> 4 & 7));
                put((c & 15) < 10 ? '0' + (c & 15) : 'a' - 10 + (c & 15));
                put('\\');
            }
        }
    }

    /** The predicates and their clauses, and what is turned into clauses and goals: bodies, grammar rules. */
    static final class Program {
        final Terms terms;
        final Kept code;
        private final Kept spare;
        /**
         * Rows of R_WIDTH: name and arity, FIXED number, first and last clause, clauses there are, told to table,
         * known. What is told to table alone has a row, but is not known.
         */
        int[] preds = new int[R_WIDTH * 160];
        private int predCount;
        private int[] index = new int[1024];
        /** The predicates that are known but not FIXED, in order of coming. */
        private final int[] comers = new int[MOST_PREDICATES];
        int knownCount;
        /** Rows of C_WIDTH: block, next clause, when it came, when it went. */
        int[] clauses = new int[C_WIDTH * 128];
        private int clauseTop;
        private int freeClause = -1;
        int stamp;
        int clauseCount;
        int room;
        private int deadCount;
        /** How many predicates, clauses and cells of code are FIXED. */
        private final int[] fixed = new int[3];
        /** Goals that are to be looked at; for grammar rows of four: what is turned, from, to, and where it goes. */
        private long[] todo = new long[64];
        private int[] where = new int[64];
        private int turnTop;
        private int turnCost;

        Program(Terms terms, Kept spare) {
            this.terms = terms;
            this.spare = spare;
            code = new Kept(terms, 2048);
            Arrays.fill(index, -1);
        }

        /** Makes the FIXED predicates name/arity of a row of words. */
        void addFixed(String words) {
            byte[] text = new byte[words.length()];
            int n = 0;
            for (int i = 0; i <= words.length(); i++) {
                char c = i < words.length() ? words.charAt(i) : ' ';
                if (c != ' ') {
                    text[n++] = (byte) c;
                } else if (n > 2) {
                    addPred(Terms.functor(terms.atoms.intern(text, 0, n - 2), text[n - 1] - '0'), predCount);
                    n = 0;
                }
            }
        }

        /** What is here now stays for good. */
        void fix() {
            fixed[0] = predCount;
            fixed[1] = clauseTop;
            fixed[2] = code.top;
            clauseCount = 0;
            room = 0;
        }

        void backToFixed() {
            predCount = fixed[0];
            clauseTop = fixed[1];
            code.top = fixed[2];
            knownCount = 0;
            clauseCount = 0;
            room = 0;
            deadCount = 0;
            freeClause = -1;
            Arrays.fill(index, -1);
            enterFrom(0);
        }

        /** Puts the predicates from this one on into the index. */
        private void enterFrom(int first) {
            for (int p = first; p < predCount; p++) {
                int key = preds[p * R_WIDTH];
                int slot = (key * 31 + (key >> 8) * 17) & (index.length - 1);
                for (int i = 0; i < index.length && index[slot] >= 0; i++) {
                    slot = (slot + 1) & (index.length - 1);
                }
                index[slot] = p;
            }
        }

        /** The number of the predicate with this functor, or -1. */
        int find(long functor) {
            int key = (int) (functor >> 3);
            int slot = (key * 31 + (key >> 8) * 17) & (index.length - 1);
            for (int i = 0; i < index.length && index[slot] >= 0; i++) {
                if (preds[index[slot] * R_WIDTH] == key) {
                    return index[slot];
                }
                slot = (slot + 1) & (index.length - 1);
            }
            return -1;
        }

        private int addPred(long functor, int fixed) {
            if ((predCount + 1) * R_WIDTH > preds.length) {
                preds = Arrays.copyOf(preds, preds.length * 2);
            }
            int row = predCount * R_WIDTH;
            preds[row] = (int) (functor >> 3);
            preds[row + R_FIXED] = fixed;
            preds[row + R_FIRST] = -1;
            preds[row + R_LAST] = -1;
            preds[row + R_LIVE] = 0;
            preds[row + R_TABLED] = 0;
            preds[row + R_KNOWN] = fixed == NOT_FIXED ? 0 : 1;
            predCount++;
            boolean grown = 2 * predCount > index.length;
            if (grown) {
                index = new int[index.length * 2];
                Arrays.fill(index, -1);
            }
            enterFrom(grown ? 0 : predCount - 1);
            return predCount - 1;
        }

        boolean isKnown(int p) {
            return p >= 0 && preds[p * R_WIDTH + R_KNOWN] != 0;
        }

        /** The predicate, made known if it is not, or -1 if there are too many. */
        int known(long functor) {
            int p = find(functor);
            if (isKnown(p)) {
                return p;
            }
            if (knownCount >= MOST_PREDICATES) {
                return -1;
            }
            p = p < 0 ? addPred(functor, NOT_FIXED) : p;
            preds[p * R_WIDTH + R_KNOWN] = 1;
            comers[knownCount++] = p;
            return p;
        }

        /** Told to table; whether it is known is another matter. */
        void tell(long functor) {
            int p = find(functor);
            p = p < 0 ? addPred(functor, NOT_FIXED) : p;
            preds[p * R_WIDTH + R_TABLED] = 1;
        }

        /** The predicate that came as number i of those that are known but not FIXED. */
        int knownAt(int i) {
            return comers[i];
        }

        boolean isFixed(int p) {
            return p >= 0 && preds[p * R_WIDTH + R_FIXED] != NOT_FIXED;
        }

        long functorOf(int p) {
            return (long) preds[p * R_WIDTH] << 3 | FUN;
        }

        /** The first of the clauses from c on that there are, or were at that time, or -1. */
        int visible(int c, int time) {
            int at = c;
            for (int i = 0; i < LOOPS && at >= 0; i++) {
                int row = at * C_WIDTH;
                if (clauses[row + C_BORN] <= time && clauses[row + C_DIED] > time) {
                    return at;
                }
                at = clauses[row + C_NEXT];
            }
            return -1;
        }

        int firstOf(int p, int time) {
            return visible(preds[p * R_WIDTH + R_FIRST], time);
        }

        int nextOf(int c, int time) {
            return visible(clauses[c * C_WIDTH + C_NEXT], time);
        }

        int blockOf(int c) {
            return clauses[c * C_WIDTH];
        }

        boolean isThere(int c) {
            return clauses[c * C_WIDTH + C_DIED] == ALIVE;
        }

        /** Those that are at a clause that went can still go on from it: only the front of the row moves. */
        void remove(int p, int c) {
            clauses[c * C_WIDTH + C_DIED] = ++stamp;
            room -= code.roomOf(blockOf(c));
            clauseCount--;
            deadCount++;
            int row = p * R_WIDTH;
            preds[row + R_LIVE]--;
            int first = preds[row + R_FIRST];
            for (int i = 0; i < LOOPS && first >= 0 && !isThere(first); i++) {
                first = clauses[first * C_WIDTH + C_NEXT];
            }
            preds[row + R_FIRST] = first;
        }

        private void link(int p, int block, boolean atEnd) {
            int c = newClause();
            int row = p * R_WIDTH;
            int first = preds[row + R_FIRST];
            clauses[c * C_WIDTH] = block;
            clauses[c * C_WIDTH + C_NEXT] = atEnd ? -1 : first;
            clauses[c * C_WIDTH + C_BORN] = ++stamp;
            clauses[c * C_WIDTH + C_DIED] = ALIVE;
            if (atEnd && first >= 0) {
                clauses[preds[row + R_LAST] * C_WIDTH + C_NEXT] = c;
            } else {
                preds[row + R_FIRST] = c;
            }
            if (atEnd || first < 0) {
                preds[row + R_LAST] = c;
            }
            preds[row + R_LIVE]++;
            clauseCount++;
            room += code.roomOf(block);
        }

        private int newClause() {
            if (freeClause >= 0) {
                int c = freeClause;
                freeClause = clauses[c * C_WIDTH + C_NEXT];
                return c;
            }
            if ((clauseTop + 1) * C_WIDTH > clauses.length) {
                clauses = Arrays.copyOf(clauses, clauses.length * 2);
            }
            return clauseTop++;
        }

        /** Between queries nobody is at a clause that went: their places are free again. */
        void sweep() {
            if (deadCount < SWEEP_CLAUSES) {
                return;
            }
            deadCount = 0;
            spare.top = 0;
            freeClause = -1;
            for (int c = 0; c < clauseTop; c++) {
                if (!isThere(c)) {
                    clauses[c * C_WIDTH] = -1;
                }
            }
            for (int p = 0; p < predCount; p++) {
                sweepPred(p * R_WIDTH);
            }
            code.swap(spare);
            spare.top = 0;
            for (int c = clauseTop - 1; c >= 0; c--) {
                if (clauses[c * C_WIDTH] < 0) {
                    clauses[c * C_WIDTH + C_NEXT] = freeClause;
                    freeClause = c;
                }
            }
        }

        private void sweepPred(int row) {
            int last = -1;
            int c = preds[row + R_FIRST];
            for (int i = 0; i < LOOPS && c >= 0; i++) {
                int next = clauses[c * C_WIDTH + C_NEXT];
                if (clauses[c * C_WIDTH] >= 0) {
                    clauses[c * C_WIDTH] = spare.append(code, clauses[c * C_WIDTH]);
                    if (last >= 0) {
                        clauses[last * C_WIDTH + C_NEXT] = c;
                    } else {
                        preds[row + R_FIRST] = c;
                    }
                    last = c;
                }
                c = next;
            }
            if (last >= 0) {
                clauses[last * C_WIDTH + C_NEXT] = -1;
            } else {
                preds[row + R_FIRST] = -1;
            }
            preds[row + R_LAST] = last;
        }

        void markAtoms() {
            for (int p = 0; p < predCount; p++) {
                terms.atoms.mark(preds[p * R_WIDTH] >> 8);
            }
            terms.atoms.markCells(code.cells, code.top);
        }

        /** H of H :- B, or the clause itself. */
        long headOf(long clause) {
            return terms.hasFunctor(clause, A_NECK, 2) ? terms.argument(clause, 1) : clause;
        }

        long bodyOf(long clause) {
            return terms.hasFunctor(clause, A_NECK, 2) ? terms.argument(clause, 2) : YES;
        }

        /** False, with the ERROR, if this can't be called, or be the head of a clause. */
        boolean isCallable(long t) {
            if (Terms.isVariable(t)) {
                return terms.instantiationError();
            }
            return !Terms.isInteger(t) || terms.typeError(A_CALLABLE, t);
        }

        boolean isModifiable(long functor) {
            int p = find(functor);
            return !isFixed(p) || terms.permissionError(A_MODIFY, A_STATIC, terms.indicator(functor));
        }

        /** Adds a clause, or throws its ERROR; a library's clause makes its predicate FIXED. */
        boolean add(long clause, boolean atEnd, boolean library) {
            long head = headOf(clause);
            if (!isCallable(head)) {
                return false;
            }
            long body = bodyOf(clause);
            body = Terms.isVariable(body) ? terms.struct(A_CALL, body) : goalOf(body);
            if (body == NONE) {
                return false;
            }
            long functor = terms.goalFunctor(head);
            if (!library && !isModifiable(functor)) {
                return false;
            }
            int block = code.keep(head, body);
            if (block < 0) {
                return false;
            }
            if (!library && (clauseCount >= MOST_CLAUSES || room + code.roomOf(block) > MOST_ROOM)) {
                code.top = block;
                return terms.resourceError(A_CLAUSES);
            }
            int p = library && find(functor) < 0 ? addPred(functor, DEFINED) : known(functor);
            if (p < 0) {
                code.top = block;
                return terms.resourceError(A_PREDICATES);
            }
            link(p, block, atEnd);
            return true;
        }

        private static boolean isControl(long functor) {
            return functor == COMMA_FUNCTOR || functor == SEMI_FUNCTOR || functor == ARROW_FUNCTOR
                    || functor == SOFT_FUNCTOR;
        }

        /** What is to be called as by call: NONE, with the ERROR, if it can't be. */
        long goalOf(long term) {
            long goal = terms.deref(term);
            if (!isCallable(goal)) {
                return NONE;
            }
            return isControl(terms.functorOf(goal)) ? lookAt(goal) : goal;
        }

        private void push(int n, long cell, int slot) {
            if (n >= where.length || n >= todo.length) {
                todo = Arrays.copyOf(todo, Math.max(todo.length, n * 2));
                where = Arrays.copyOf(where, Math.max(where.length, n * 2));
            }
            todo[n] = cell;
            where[n] = slot;
        }

        /** Looks at all goals of a control construct; variables among them become call(it). */
        private long lookAt(long whole) {
            boolean open = false;
            int n = 0;
            push(n++, whole, 0);
            for (int i = 0; i < LOOPS && n > 0; i++) {
                long t = terms.deref(todo[--n]);
                if (!terms.charge(1)) {
                    return NONE;
                }
                if (Terms.isInteger(t)) {
                    terms.typeError(A_CALLABLE, whole);
                    return NONE;
                }
                open |= Terms.isVariable(t);
                if (isControl(terms.functorOf(t))) {
                    push(n++, terms.cells[Terms.at(t) + 2], 0);
                    push(n++, terms.cells[Terms.at(t) + 1], 0);
                }
            }
            return open ? withCalls(whole) : whole;
        }

        private long withCalls(long whole) {
            int root = terms.alloc(1);
            int n = 0;
            push(n++, whole, root);
            for (int i = 0; i < LOOPS && n > 0; i++) {
                long t = terms.deref(todo[--n]);
                int slot = where[n];
                boolean control = isControl(terms.functorOf(t));
                if (control || (t & 7) == REF) {
                    int s = terms.alloc(control ? 3 : 2);
                    terms.cells[slot] = (long) s << 3 | STR;
                    terms.cells[s] = control ? terms.cells[(int) (t >> 3)] : CALL_FUNCTOR;
                    terms.cells[s + 1] = t;
                    if (control) {
                        push(n++, terms.cells[(int) (t >> 3) + 2], s + 2);
                        push(n++, terms.cells[(int) (t >> 3) + 1], s + 1);
                    }
                } else {
                    terms.cells[slot] = t;
                }
            }
            return terms.cells[root];
        }

        private void pushTurn(long body, long from, long to, int slot) {
            if (turnTop + 4 > todo.length) {
                todo = Arrays.copyOf(todo, todo.length * 2);
            }
            todo[turnTop] = body;
            todo[turnTop + 1] = from;
            todo[turnTop + 2] = to;
            todo[turnTop + 3] = slot;
            turnTop += 4;
        }

        /** The clause of H --> B, or NONE with its ERROR. */
        long clauseOf(long rule) {
            long head = terms.argument(rule, 1);
            long body = terms.argument(rule, 2);
            long pushback = NONE;
            if (terms.hasFunctor(head, A_COMMA, 2)) {
                pushback = terms.argument(head, 2);
                head = terms.argument(head, 1);
                if (!isList(pushback)) {
                    return NONE;
                }
            }
            if (Terms.isVariable(head)) {
                terms.instantiationError();
                return NONE;
            }
            if (!isExtendable(head) || !check(body)) {
                return NONE;
            }
            long from = terms.newVariable();
            long to = terms.newVariable();
            long newHead = extended(head, from, to);
            if (pushback == NONE) {
                return terms.struct(A_NECK, newHead, turned(body, from, to));
            }
            long middle = terms.newVariable();
            long goals = turned(body, from, middle);
            long back = terms.struct(A_EQUALS, to, joined(pushback, middle));
            return terms.struct(A_NECK, newHead, terms.struct(A_COMMA, goals, back));
        }

        /** Whether a body can be turned for phrase; false with its ERROR, or if WORK is spent. */
        boolean isPhrase(long body) {
            if ((body & 7) == REF) {
                return terms.instantiationError();
            }
            return check(body) && terms.charge(turnCost);
        }

        private boolean isList(long t) {
            int n = terms.listLength(t);
            if (n == -1) {
                return terms.instantiationError();
            }
            return n >= 0 || terms.typeError(A_LIST, t);
        }

        /** Whether two more arguments can come to it. */
        private boolean isExtendable(long goal) {
            if (Terms.isInteger(goal)) {
                return terms.typeError(A_CALLABLE, goal);
            }
            int arity = Terms.isAtom(goal) ? 0 : Terms.arityOf(terms.functorOf(goal));
            turnCost += arity + 2;
            return arity + 2 <= MOST_ARGUMENTS || terms.representationError(A_MAX_ARITY);
        }

        private boolean isPair(long t) {
            return terms.hasFunctor(t, A_COMMA, 2) || terms.hasFunctor(t, A_SEMI, 2)
                    || terms.hasFunctor(t, A_ARROW, 2);
        }

        private boolean isListBody(long t) {
            return t == NIL || terms.hasFunctor(t, A_DOT, 2);
        }

        /** What is left as it is: {}, {G} and !. */
        private boolean isPlain(long t) {
            return t == CURLY_ATOM || t == CUT_ATOM || terms.hasFunctor(t, A_CURLY, 1);
        }

        /** Looks for ERRORS before anything is turned, and counts what turning will turnCost. */
        private boolean check(long body) {
            turnCost = 0;
            turnTop = 0;
            pushTurn(body, 0, 0, 0);
            // Beyond MOST_TURNED it can't be paid for, whatever is still to come.
            for (int i = 0; i < MOST_TURNED && turnTop > 0 && turnCost < MOST_TURNED; i++) {
                turnTop -= 4;
                long t = terms.deref(todo[turnTop]);
                turnCost++;
                if (isPair(t)) {
                    pushTurn(terms.argument(t, 2), 0, 0, 0);
                    pushTurn(terms.argument(t, 1), 0, 0, 0);
                } else if (terms.hasFunctor(t, A_NOT, 1)) {
                    pushTurn(terms.argument(t, 1), 0, 0, 0);
                } else if (isListBody(t)) {
                    if (!isList(t)) {
                        return false;
                    }
                    turnCost += terms.listLength(t);
                } else if (!Terms.isVariable(t) && !isPlain(t) && !isExtendable(t)) {
                    return false;
                }
            }
            return true;
        }

        /** The goal of a body from one place of a list to another. */
        long turned(long body, long from, long to) {
            int root = terms.alloc(1);
            turnTop = 0;
            pushTurn(body, from, to, root);
            for (int i = 0; i < MOST_TURNED && turnTop > 0; i++) {
                turnTop -= 4;
                turnOne(terms.deref(todo[turnTop]), todo[turnTop + 1], todo[turnTop + 2], (int) todo[turnTop + 3]);
            }
            return terms.cells[root];
        }

        private void turnOne(long t, long from, long to, int slot) {
            long goal;
            if (isPair(t)) {
                boolean choice = terms.hasFunctor(t, A_SEMI, 2);
                long middle = choice ? NONE : terms.newVariable();
                goal = terms.struct(Terms.nameOf(terms.functorOf(t)), NONE, NONE);
                pushTurn(terms.argument(t, 2), choice ? from : middle, to, Terms.at(goal) + 2);
                pushTurn(terms.argument(t, 1), from, choice ? to : middle, Terms.at(goal) + 1);
            } else if (terms.hasFunctor(t, A_NOT, 1)) {
                long inner = terms.struct(A_NOT, NONE);
                goal = terms.struct(A_COMMA, inner, terms.struct(A_EQUALS, from, to));
                pushTurn(terms.argument(t, 1), from, terms.newVariable(), Terms.at(inner) + 1);
            } else if (Terms.isVariable(t)) {
                goal = phraseGoal(t, from, to);
            } else if (isListBody(t)) {
                goal = terms.struct(A_EQUALS, from, joined(t, to));
            } else if (isPlain(t)) {
                goal = plain(t, terms.struct(A_EQUALS, from, to));
            } else {
                goal = extended(t, from, to);
            }
            terms.cells[slot] = goal;
        }

        private long plain(long t, long same) {
            if (t == CURLY_ATOM) {
                return same;
            }
            return terms.struct(A_COMMA, Terms.isAtom(t) ? t : terms.argument(t, 1), same);
        }

        private long phraseGoal(long t, long from, long to) {
            int s = terms.alloc(4);
            terms.cells[s] = ((long) A_PHRASE << 8 | 3) << 3 | FUN;
            terms.cells[s + 1] = t;
            terms.cells[s + 2] = from;
            terms.cells[s + 3] = to;
            return (long) s << 3 | STR;
        }

        /** A goal with two more arguments. */
        private long extended(long goal, long from, long to) {
            long f = terms.goalFunctor(goal);
            int n = (int) (f >> 3) & 255;
            int s = terms.alloc(n + 3);
            terms.cells[s] = f + (2 << 3);
            if (n > 0) {
                System.arraycopy(terms.cells, (int) (goal >> 3) + 1, terms.cells, s + 1, n);
            }
            terms.cells[s + n + 1] = from;
            terms.cells[s + n + 2] = to;
            return (long) s << 3 | STR;
        }

        /** The elements of a list with something else at its end. */
        private long joined(long list, long end) {
            long first = end;
            int slot = -1;
            long t = terms.deref(list);
            for (int i = 0; i < LOOPS && terms.hasFunctor(t, A_DOT, 2); i++) {
                long pair = terms.struct(A_DOT, terms.argument(t, 1), end);
                if (slot < 0) {
                    first = pair;
                } else {
                    terms.cells[slot] = pair;
                }
                slot = Terms.at(pair) + 2;
                t = terms.argument(t, 2);
            }
            return first;
        }
    }

    /** Runs goals: what is to be called next is a chain of frames, what can be tried else a row of choices. */
    static final class Machine {
        final Terms terms;
        final Program program;
        final Kept bag;
        private final Kept thrown;
        final Bags bags;
        final Tables tables;
        private final Builtins builtins;
        private final Database database;
        private final Texts texts;
        /** Rows of F_WIDTH: kind, next frame, choices that a cut leaves. */
        private int[] frames = new int[F_WIDTH * 256];
        private long[] frameGoals = new long[256];
        private int frameTop;
        private int[] choices = new int[K_WIDTH * 64];
        private long[] choiceTerms = new long[2 * 64];
        int choiceTop;
        int cont;
        private int waits;
        /** The clause that is tried next, or -1 if it is a frame's turn; its goal, and what a cut in it leaves. */
        private int clause = -1;
        private long goal = NONE;
        private int goalCut;
        private boolean fresh;

        Machine(Terms terms, Program program, Kept bag, Writer writer) {
            this.terms = terms;
            this.program = program;
            this.bag = bag;
            thrown = new Kept(terms, 64);
            bags = new Bags(terms, bag);
            tables = new Tables(terms, bag);
            builtins = new Builtins(terms, bag);
            database = new Database(terms, program, tables);
            texts = new Texts(terms, writer, builtins);
        }

        Database database() {
            return database;
        }

        Texts texts() {
            return texts;
        }

        /** Makes ready to run a goal; what was run before is over. */
        void begin(long newGoal, int limit) {
            terms.work = 0;
            terms.limit = limit;
            terms.spent = false;
            terms.ball = NONE;
            terms.trailTop = 0;
            bag.top = 0;
            frameTop = 0;
            choiceTop = 0;
            waits = 0;
            cont = pushFrame(F_STOP, 0, NONE);
            clause = -1;
            fresh = true;
            goal = newGoal;
        }

        /** Runs on to the next answer. */
        int solve() {
            terms.metered = true;
            boolean ok = fresh && callBody(goal);
            fresh = false;
            int answer = -1;
            for (int i = 0; i < LOOPS && answer < 0; i++) {
                if (!ok) {
                    if (terms.spent) {
                        answer = SPENT;
                    } else if (terms.ball != NONE) {
                        ok = unwind();
                        answer = !ok && !terms.spent && terms.ball == NONE ? BALL : -1;
                    } else if (choiceTop == 0) {
                        answer = NO_MORE;
                    } else {
                        ok = retry();
                    }
                } else if (clause >= 0) {
                    ok = tryClause();
                } else if (frames[cont * F_WIDTH] == F_STOP) {
                    answer = ANSWER;
                } else {
                    int f = cont;
                    cont = frames[f * F_WIDTH + 1];
                    int id = frames[f * F_WIDTH] == F_GOAL ? predicateOf(f) : NO_GOAL;
                    if (id == NO_GOAL) {
                        ok = leave(frames[f * F_WIDTH], f);
                    } else if (id < 0) {
                        ok = id == CLAUSES_TRIED;
                    } else if (id < P_CALL1) {
                        ok = control(id, goal, frames[f * F_WIDTH + 2]);
                    } else if (id <= P_FREEZE) {
                        ok = callWithGoal(id, goal);
                    } else if (id == P_DIF) {
                        addWait(WAIT_DIF, terms.argument(goal, 1), terms.argument(goal, 2));
                        ok = look();
                    } else if (id <= P_AT_LEAST) {
                        ok = builtins.call(this, id, goal) && look();
                    } else if (id < P_ATOM_LENGTH) {
                        ok = database.call(this, id, goal) && look();
                    } else {
                        ok = (id == P_TERM_TO_ATOM ? texts.termToAtom(goal) : texts.call(this, id, goal)) && look();
                    }
                }
            }
            terms.metered = false;
            return answer < 0 ? SPENT : answer;
        }

        /** The ball that nobody caught. */
        long ballThrown() {
            return thrown.back(0);
        }

        int pushFrame(int kind, int cut, long what) {
            if ((frameTop + 1) * F_WIDTH > frames.length) {
                frames = Arrays.copyOf(frames, frames.length * 2);
                frameGoals = Arrays.copyOf(frameGoals, frameGoals.length * 2);
            }
            int row = frameTop * F_WIDTH;
            frames[row] = kind;
            frames[row + 1] = cont;
            frames[row + 2] = cut;
            frameGoals[frameTop] = what;
            return frameTop++;
        }

        /** A choice with what it takes to come back to now; what it is about is told by the two terms and numbers. */
        int pushChoice(int kind, long what, int a, int b, int c) {
            if ((choiceTop + 1) * K_WIDTH > choices.length) {
                choices = Arrays.copyOf(choices, choices.length * 2);
                choiceTerms = Arrays.copyOf(choiceTerms, choiceTerms.length * 2);
            }
            int row = choiceTop * K_WIDTH;
            choices[row] = kind;
            choices[row + 1] = terms.trailTop;
            choices[row + 2] = terms.top;
            choices[row + 3] = frameTop;
            choices[row + 4] = cont;
            choices[row + 5] = waits;
            choices[row + K_A] = a;
            choices[row + K_B] = b;
            choices[row + K_C] = c;
            choiceTerms[2 * choiceTop] = what;
            choiceTerms[2 * choiceTop + 1] = NONE;
            return choiceTop++;
        }

        int numberOf(int choice, int which) {
            return choices[choice * K_WIDTH + which];
        }

        void setNumber(int choice, int which, int value) {
            choices[choice * K_WIDTH + which] = value;
        }

        long termOf(int choice) {
            return choiceTerms[2 * choice];
        }

        long moreOf(int choice) {
            return choiceTerms[2 * choice + 1];
        }

        void setMore(int choice, long more) {
            choiceTerms[2 * choice + 1] = more;
        }

        private void restore(int choice) {
            int row = choice * K_WIDTH;
            terms.undo(choices[row + 1]);
            terms.top = choices[row + 2];
            frameTop = choices[row + 3];
            cont = choices[row + 4];
            waits = choices[row + 5];
        }

        private void cutTo(int height) {
            choiceTop = Math.min(choiceTop, height);
        }

        /** Tries what the latest choice leaves to try. */
        private boolean retry() {
            int k = choiceTop - 1;
            restore(k);
            switch (choices[k * K_WIDTH]) {
                case K_CLAUSES:
                    return retryClause(k);
                case K_OTHER:
                    choiceTop = k;
                    cont = pushFrame(F_GOAL, numberOf(k, K_A), termOf(k));
                    return true;
                case K_NOT:
                    choiceTop = k;
                    return true;
                case K_FINDALL:
                case K_GROUPS:
                    choiceTop = k;
                    long g = termOf(k);
                    int n = choices[k * K_WIDTH] == K_FINDALL ? bags.finish(this, k) : bags.nextGroup(this, k);
                    return n >= 0 && bags.giveList(this, g, n) && look();
                case K_TABLE:
                    choiceTop = k;
                    return tables.finishRun(this, k);
                case K_ANSWERS:
                    return tables.nextAnswer(this, k) && look();
                case K_BUILTIN:
                    int id = numberOf(k, K_C);
                    return (id == P_LENGTH || id == P_BETWEEN ? builtins.redo(this, id, k)
                            : id == P_ATOM_CONCAT || id == P_SUB_ATOM ? texts.redo(this, id, k)
                            : database.redo(this, id, k)) && look();
                default:
                    choiceTop = k;
                    return false;
            }
        }

        /** What comes behind a goal that was run for something else. */
        private boolean leave(int kind, int f) {
            int cut = frames[f * F_WIDTH + 2];
            switch (kind) {
                case F_CUT:
                    cutTo(cut);
                    return true;
                case F_NOT:
                    cutTo(cut);
                    return false;
                case F_SOFT:
                    choices[cut * K_WIDTH] = K_DEAD;
                    return true;
                case F_CATCH:
                    if (choiceTop == cut + 1) {
                        choiceTop = cut;
                    }
                    return true;
                case F_COLLECT:
                    if (bag.keep(frameGoals[f], NONE) >= 0) {
                        setNumber(cut, K_B, numberOf(cut, K_B) + 1);
                    }
                    return false;
                default:
                    return tables.addAnswer(cut, frameGoals[f]);
            }
        }

        /** Calls a goal as call does, but without its own 1. */
        boolean callBody(long term) {
            long body = program.goalOf(term);
            if (body == NONE) {
                return false;
            }
            cont = pushFrame(F_GOAL, choiceTop, body);
            return true;
        }

        /**
         * The goal of a frame is called: the number of its FIXED predicate. If it has clauses the first is to be tried
         * next; FAILED tells that it fails, or that there is an ERROR.
         */
        private int predicateOf(int f) {
            goal = terms.deref(frameGoals[f]);
            // Of G of {G}, that phrase calls, nobody has asked yet what it is.
            if (!program.isCallable(goal) || !terms.charge(1)) {
                return FAILED;
            }
            long functor = terms.goalFunctor(goal);
            int p = program.find(functor);
            if (!program.isKnown(p)) {
                terms.existenceError(A_PROCEDURE, terms.indicator(functor));
                return FAILED;
            }
            int id = program.preds[p * R_WIDTH + R_FIXED];
            if (id >= 0) {
                return id;
            }
            if (program.preds[p * R_WIDTH + R_TABLED] != 0) {
                return tables.call(this, goal, p) ? CLAUSES_TRIED : FAILED;
            }
            return callClauses(goal, p) ? CLAUSES_TRIED : FAILED;
        }

        /** The first clause is to be tried next, if there is one. */
        boolean callClauses(long g, int p) {
            int time = program.stamp;
            int c = program.firstOf(p, time);
            if (c < 0) {
                return false;
            }
            goalCut = choiceTop;
            int next = program.nextOf(c, time);
            if (next >= 0) {
                pushChoice(K_CLAUSES, g, next, time, 0);
            }
            clause = c;
            goal = g;
            return true;
        }

        private boolean retryClause(int k) {
            int c = numberOf(k, K_A);
            int next = program.nextOf(c, numberOf(k, K_B));
            if (next < 0) {
                choiceTop = k;
            } else {
                setNumber(k, K_A, next);
            }
            clause = c;
            goal = termOf(k);
            goalCut = k;
            return true;
        }

        private boolean tryClause() {
            Kept code = program.code;
            int block = program.blockOf(clause);
            clause = -1;
            int base = code.open(block);
            if (!code.unifyHead(base, goal) || !terms.charge(code.partsOf(block))) {
                return false;
            }
            long body = code.build(base, 0);
            if (waits == 0 && body == YES) {
                return terms.charge(1);
            }
            cont = pushFrame(F_GOAL, goalCut, body);
            return look();
        }

        private boolean control(int id, long g, int cut) {
            switch (id) {
                case P_TRUE:
                    return true;
                case P_COMMA:
                    cont = pushFrame(F_GOAL, cut, terms.argument(g, 2));
                    cont = pushFrame(F_GOAL, cut, terms.argument(g, 1));
                    return true;
                case P_SEMI:
                    return disjunction(terms.argument(g, 1), terms.argument(g, 2), cut);
                case P_ARROW:
                    cont = pushFrame(F_GOAL, cut, terms.argument(g, 2));
                    cont = pushFrame(F_CUT, choiceTop, NONE);
                    cont = pushFrame(F_GOAL, choiceTop, terms.argument(g, 1));
                    return true;
                case P_SOFT:
                    cont = pushFrame(F_GOAL, cut, terms.argument(g, 2));
                    cont = pushFrame(F_GOAL, choiceTop, terms.argument(g, 1));
                    return true;
                case P_CUT:
                    cutTo(cut);
                    return true;
                case P_NOT:
                    int k = pushChoice(K_NOT, NONE, 0, 0, 0);
                    cont = pushFrame(F_NOT, k, NONE);
                    return callBody(terms.argument(g, 1));
                default:
                    return false;
            }
        }

        private boolean disjunction(long left, long right, int cut) {
            int k = pushChoice(K_OTHER, right, cut, 0, 0);
            boolean soft = terms.hasFunctor(left, A_SOFT, 2);
            if (!soft && !terms.hasFunctor(left, A_ARROW, 2)) {
                cont = pushFrame(F_GOAL, cut, left);
                return true;
            }
            cont = pushFrame(F_GOAL, cut, terms.argument(left, 2));
            cont = pushFrame(soft ? F_SOFT : F_CUT, k, NONE);
            cont = pushFrame(F_GOAL, choiceTop, terms.argument(left, 1));
            return true;
        }

        /** The control that has goals in its arguments. */
        private boolean callWithGoal(int id, long g) {
            long first = terms.argument(g, 1);
            switch (id) {
                case P_CALL1:
                    return callBody(first);
                case P_ONCE:
                    return callBody(terms.struct(A_ARROW, first, YES));
                case P_IGNORE:
                    return callBody(terms.struct(A_SEMI, terms.struct(A_ARROW, first, YES), YES));
                case P_FORALL:
                    long never = terms.struct(A_NOT, terms.argument(g, 2));
                    return callBody(terms.struct(A_NOT, terms.struct(A_COMMA, first, never)));
                case P_CATCH:
                    int k = pushChoice(K_CATCH, g, 0, 0, 0);
                    cont = pushFrame(F_CATCH, k, NONE);
                    return callBody(first);
                case P_THROW:
                    if (Terms.isVariable(first)) {
                        return terms.instantiationError();
                    }
                    terms.ball = first;
                    return false;
                case P_FINDALL:
                    return findall(g, first);
                case P_BAGOF:
                case P_SETOF:
                    return bags.begin(this, g);
                case P_PHRASE2:
                case P_PHRASE3:
                    if (!program.isPhrase(first)) {
                        return false;
                    }
                    // It is called as it stands, not as by call: nothing of it is looked at.
                    long rest = id == P_PHRASE3 ? terms.argument(g, 3) : NIL;
                    cont = pushFrame(F_GOAL, choiceTop, program.turned(first, terms.argument(g, 2), rest));
                    return true;
                case P_FREEZE:
                    return freeze(first, terms.argument(g, 2));
                default:
                    long made = withMore(g, id - P_CALL1);
                    return made != NONE && callBody(made);
            }
        }

        private boolean findall(long g, long template) {
            long body = program.goalOf(terms.argument(g, 2));
            if (body != NONE) {
                collect(g, template, NONE, body);
            }
            return body != NONE;
        }

        /** Runs a goal for copies of a template; free is the list of its free variables, or NONE. */
        void collect(long g, long template, long free, long body) {
            int k = pushChoice(K_FINDALL, g, bag.top, 0, 0);
            setMore(k, free);
            cont = pushFrame(F_COLLECT, k, template);
            cont = pushFrame(F_GOAL, choiceTop, body);
        }

        /** The goal that call(G, ..) makes of G and so many arguments more, or NONE with its ERROR. */
        private long withMore(long g, int more) {
            long first = terms.argument(g, 1);
            if (!program.isCallable(first)) {
                return NONE;
            }
            long f = terms.goalFunctor(first);
            int n = Terms.arityOf(f);
            if (n + more > MOST_ARGUMENTS) {
                terms.representationError(A_MAX_ARITY);
                return NONE;
            }
            if (!terms.charge(n + more)) {
                return NONE;
            }
            int s = terms.alloc(n + more + 1);
            terms.cells[s] = f + ((long) more << 3);
            if (n > 0) {
                System.arraycopy(terms.cells, Terms.at(first) + 1, terms.cells, s + 1, n);
            }
            System.arraycopy(terms.cells, Terms.at(g) + 2, terms.cells, s + n + 1, more);
            return (long) s << 3 | STR;
        }

        private boolean freeze(long x, long g) {
            if (Terms.isVariable(x)) {
                addWait(WAIT_FREEZE, x, g);
            } else {
                cont = pushFrame(F_GOAL, choiceTop, terms.struct(A_CALL, g));
            }
            return look();
        }

        private void addWait(int kind, long x, long y) {
            int at = HELD_WAITS + 3 * waits;
            if (at + 3 > terms.held.length) {
                terms.held = Arrays.copyOf(terms.held, terms.held.length * 2);
            }
            terms.held[at] = kind;
            terms.held[at + 1] = x;
            terms.held[at + 2] = y;
            waits++;
        }

        /** Looks at what WAITS: the goals whose time has come are called next. */
        boolean look() {
            for (int i = 0; i < waits; i++) {
                int at = HELD_WAITS + 3 * i;
                if (terms.held[at] == WAIT_DIF && !differs(at)) {
                    return false;
                }
            }
            // From behind, because each frame goes ahead of those that were pushed before it.
            for (int i = waits - 1; i >= 0; i--) {
                int at = HELD_WAITS + 3 * i;
                if (terms.held[at] == WAIT_FREEZE && !Terms.isVariable(terms.deref(terms.held[at + 1]))) {
                    terms.hold(at, WAIT_OVER);
                    cont = pushFrame(F_GOAL, choiceTop, terms.struct(A_CALL, terms.held[at + 2]));
                }
            }
            return true;
        }

        private boolean differs(int at) {
            int mark = terms.trailTop;
            boolean unified = terms.unify(terms.held[at + 1], terms.held[at + 2]);
            boolean same = unified && terms.trailTop == mark;
            terms.undo(mark);
            if (terms.spent || same) {
                return false;
            }
            if (!unified) {
                terms.hold(at, WAIT_OVER);
            }
            return true;
        }

        /** Carries the ball to the nearest catch that takes it; false, and no ball left, if there is none. */
        private boolean unwind() {
            thrown.top = 0;
            long ball = terms.ball;
            terms.ball = NONE;
            if (thrown.keep(ball, NONE) < 0) {
                return false;
            }
            for (int f = cont, i = 0; frames[f * F_WIDTH] != F_STOP && i < LOOPS; i++) {
                int next = frames[f * F_WIDTH + 1];
                if (frames[f * F_WIDTH] == F_CATCH) {
                    int k = frames[f * F_WIDTH + 2];
                    dropTo(k);
                    long catcher = termOf(k);
                    long copy = thrown.back(0);
                    if (copy == NONE) {
                        return false;
                    }
                    if (terms.unify(terms.argument(catcher, 2), copy)) {
                        return callBody(terms.argument(catcher, 3));
                    }
                    if (terms.spent) {
                        return false;
                    }
                    restore(k);
                }
                f = next;
            }
            dropTo(0);
            return false;
        }

        /** Gives up all choices above a height, with what they are in the middle of. */
        void dropTo(int height) {
            for (int k = choiceTop - 1; k >= height; k--) {
                int kind = choices[k * K_WIDTH];
                if (kind == K_FINDALL) {
                    bag.top = numberOf(k, K_A);
                } else if (kind == K_TABLE) {
                    tables.abandon(numberOf(k, K_A));
                }
            }
            if (choiceTop > height) {
                restore(height);
                choiceTop = height;
            }
        }
    }

    /** findall and its family, variables of terms, and sorting. */
    static final class Bags {
        private final Terms terms;
        private final Kept bag;
        /** What is sorted, and a second row for merging. */
        long[] row = new long[64];
        private long[] merged = new long[64];
        /** Variables that were found, and those of them that are not free. */
        private long[] found = new long[32];
        private boolean[] bound = new boolean[32];
        private int foundCount;
        private final int[] parts = new int[256];

        Bags(Terms terms, Kept bag) {
            this.terms = terms;
            this.bag = bag;
        }

        private void roomFor(int n) {
            if (n > row.length) {
                row = Arrays.copyOf(row, Math.max(n, row.length * 2));
                merged = Arrays.copyOf(merged, row.length);
            }
        }

        /** The first n of the row as a list. */
        long listOfRow(int n) {
            long list = NIL;
            for (int i = n - 1; i >= 0; i--) {
                list = terms.struct(A_DOT, row[i], list);
            }
            return list;
        }

        /** Puts the elements of a list, that ends, into the row: how many. */
        int rowOfList(long list) {
            long t = terms.deref(list);
            int n = 0;
            for (int i = 0; i < LOOPS && terms.hasFunctor(t, A_DOT, 2); i++) {
                roomFor(n + 1);
                row[n++] = terms.argument(t, 1);
                t = terms.argument(t, 2);
            }
            return n;
        }

        /**
         * Sorts the first n of the row, by the first arguments of pairs or as they are; false if WORK is spent. The
         * halves of halves are sorted on a stack: rows of from, to, and whether both halves are sorted.
         */
        boolean sortRow(int n, boolean byKey) {
            if (!terms.charge(n)) {
                return false;
            }
            int sp = 3;
            parts[0] = 0;
            parts[1] = n;
            parts[2] = 0;
            for (int i = 0; i < LOOPS && sp > 0; i++) {
                int from = parts[sp - 3];
                int to = parts[sp - 2];
                int middle = from + (to - from) / 2;
                if (to - from < 2 || sp + 6 > parts.length) {
                    sp -= 3;
                } else if (parts[sp - 1] == 0) {
                    parts[sp - 1] = 1;
                    parts[sp] = middle;
                    parts[sp + 1] = to;
                    parts[sp + 2] = 0;
                    parts[sp + 3] = from;
                    parts[sp + 4] = middle;
                    parts[sp + 5] = 0;
                    sp += 6;
                } else {
                    if (!merge(from, middle, to, byKey)) {
                        return false;
                    }
                    sp -= 3;
                }
            }
            return true;
        }

        private boolean merge(int from, int middle, int to, boolean byKey) {
            int a = from;
            int b = middle;
            int n = from;
            for (int i = from; i < to && a < middle && b < to; i++) {
                long one = byKey ? terms.argument(row[a], 1) : row[a];
                long two = byKey ? terms.argument(row[b], 1) : row[b];
                int order = terms.compareTerms(two, one);
                if (terms.spent) {
                    return false;
                }
                merged[n++] = order < 0 ? row[b++] : row[a++];
            }
            System.arraycopy(row, a, merged, n, middle - a);
            n += middle - a;
            System.arraycopy(row, b, merged, n, to - b);
            System.arraycopy(merged, from, row, from, to - from);
            return true;
        }

        /** Leaves one of equal neighbours in the row: how many are left, or -1 if WORK is spent. */
        int dropEqual(int n) {
            int kept = Math.min(n, 1);
            for (int i = 1; i < n; i++) {
                int order = terms.compareTerms(row[kept - 1], row[i]);
                if (terms.spent) {
                    return -1;
                }
                if (order != 0) {
                    row[kept++] = row[i];
                }
            }
            return kept;
        }

        /** Goes over a term; each variable that it meets first is put to those found, others are bound. */
        private boolean goOver(long term, boolean finding) {
            int sp = 0;
            long t = term;
            for (int i = 0; i < LOOPS; i++) {
                if (!terms.charge(1)) {
                    return false;
                }
                t = terms.deref(t);
                if (Terms.tag(t) == STR) {
                    terms.roomForWalk(sp);
                    terms.walk[sp] = Terms.at(t) + 1;
                    terms.walk[sp + 1] = Terms.arityOf(terms.cells[Terms.at(t)]);
                    sp += 2;
                } else if (finding && Terms.tag(t) == REF) {
                    addFound(t);
                } else if (!finding && Terms.tag(t) == VARN) {
                    bound[Terms.at(t)] = true;
                }
                if (sp == 0) {
                    return true;
                }
                int next = terms.walk[sp - 2]++;
                if (--terms.walk[sp - 1] == 0) {
                    sp -= 2;
                }
                t = terms.cells[next];
            }
            return false;
        }

        private void addFound(long variable) {
            if (foundCount == found.length) {
                found = Arrays.copyOf(found, foundCount * 2);
                boolean[] more = new boolean[foundCount * 2];
                System.arraycopy(bound, 0, more, 0, foundCount);
                bound = more;
            }
            found[foundCount] = variable;
            bound[foundCount] = false;
            terms.bind(variable, (long) foundCount++ << 3 | VARN);
        }

        /** The list of the variables of a term, or NONE if WORK is spent. */
        long variablesOf(long term) {
            int mark = terms.trailTop;
            foundCount = 0;
            boolean done = goOver(term, true);
            terms.undo(mark);
            return done ? listOfFound() : NONE;
        }

        private long listOfFound() {
            long list = NIL;
            for (int i = foundCount - 1; i >= 0; i--) {
                if (!bound[i]) {
                    list = terms.struct(A_DOT, found[i], list);
                }
            }
            return list;
        }

        /** The list of the free variables of a goal behind its V ^, or NONE if WORK is spent. */
        private long freeOf(long goal, long template, long whole) {
            int mark = terms.trailTop;
            foundCount = 0;
            boolean done = goOver(goal, true) && goOver(template, false);
            long t = whole;
            for (int i = 0; i < LOOPS && done && terms.hasFunctor(t, A_CARET, 2); i++) {
                done = goOver(terms.argument(t, 1), false);
                t = terms.argument(t, 2);
            }
            terms.undo(mark);
            return done ? listOfFound() : NONE;
        }

        /** bagof and setof. */
        boolean begin(Machine machine, long g) {
            long template = terms.argument(g, 1);
            long whole = terms.argument(g, 2);
            long goal = whole;
            for (int i = 0; i < LOOPS && terms.hasFunctor(goal, A_CARET, 2); i++) {
                goal = terms.argument(goal, 2);
            }
            long body = machine.program.goalOf(goal);
            if (body == NONE) {
                return false;
            }
            long free = freeOf(goal, template, whole);
            if (free == NONE) {
                return false;
            }
            boolean none = free == NIL;
            long kept = none ? template : terms.struct(A_MINUS, free, template);
            machine.collect(g, kept, none ? NONE : free, body);
            return true;
        }

        /**
         * All copies of a bag are there: how many are in the row for the list, or -1 if there is no list. The choice is
         * gone, what it told is still to be read.
         */
        int finish(Machine machine, int choice) {
            long g = machine.termOf(choice);
            long free = machine.moreOf(choice);
            int from = machine.numberOf(choice, K_A);
            int n = machine.numberOf(choice, K_B);
            boolean findall = terms.functorOf(g) == machine.program.functorOf(P_FINDALL);
            if (n == 0 && !findall) {
                bag.top = from;
                return -1;
            }
            roomFor(n);
            bag.pos = from;
            for (int i = 0; i < n; i++) {
                long copy = bag.back(bag.pos);
                if (copy == NONE) {
                    return -1;
                }
                row[i] = copy;
            }
            bag.top = from;
            if (free == NONE) {
                return n;
            }
            if (!sortRow(n, true)) {
                return -1;
            }
            // The groups are a choice, that is tried by failing.
            long pairs = terms.struct(A_MINUS, free, listOfRow(n));
            machine.setMore(machine.pushChoice(K_GROUPS, g, 0, 0, 0), pairs);
            return -1;
        }

        /** Unifies the list of the row, SORTED for setof, with L. */
        boolean giveList(Machine machine, long g, int n) {
            int left = n;
            if (terms.functorOf(g) == machine.program.functorOf(P_SETOF)) {
                left = sortRow(n, false) ? dropEqual(n) : -1;
            }
            return left >= 0 && terms.unify(terms.argument(g, 3), listOfRow(left));
        }

        /** The first of the pairs W-T and all of the same W are one answer: how many T are in the row, or -1. */
        int nextGroup(Machine machine, int choice) {
            long g = machine.termOf(choice);
            long more = machine.moreOf(choice);
            int n = rowOfList(terms.argument(more, 2));
            if (n == 0) {
                return -1;
            }
            long free = terms.argument(more, 1);
            long first = terms.argument(row[0], 1);
            int group = splitGroup(first, n);
            if (group >= 0 && group < n) {
                long left = terms.struct(A_MINUS, free, restOfRow(group, n));
                machine.setMore(machine.pushChoice(K_GROUPS, g, 0, 0, 0), left);
            }
            for (int i = 1; i < group; i++) {
                if (!terms.unify(terms.argument(row[i], 1), first)) {
                    return -1;
                }
            }
            if (group < 0 || !terms.unify(first, free)) {
                return -1;
            }
            for (int i = 0; i < group; i++) {
                row[i] = terms.argument(row[i], 2);
            }
            return group;
        }

        private long restOfRow(int from, int to) {
            long list = NIL;
            for (int i = to - 1; i >= from; i--) {
                list = terms.struct(A_DOT, row[i], list);
            }
            return list;
        }

        /** Brings the pairs whose W is a variant of the first to the front of the row: how many, or -1 without WORK. */
        private int splitGroup(long first, int n) {
            // Comparing is what is paid for, so that the copy to compare with is free.
            terms.metered = false;
            int block = bag.keep(first, NONE);
            terms.metered = true;
            int group = 1;
            int others = 0;
            for (int i = 1; i < n; i++) {
                boolean fits = bag.isVariant(block, terms.argument(row[i], 1));
                if (terms.spent) {
                    return -1;
                }
                if (fits) {
                    row[group++] = row[i];
                } else {
                    merged[others++] = row[i];
                }
            }
            System.arraycopy(merged, 0, row, group, others);
            bag.top = block;
            return group;
        }
    }

    /** The TABLES: calls of predicates told to table, with their answers. */
    static final class Tables {
        private final Terms terms;
        private final Kept kept;
        private final Kept spare;
        /** Rows of T_WIDTH: predicate, block of the call, state, latest ROUND, first and last answer, how many. */
        private int[] tables = new int[T_WIDTH * 16];
        private int tableTop;
        /** Rows of two: block, next answer of the same TABLE. */
        private int[] answers = new int[2 * 64];
        private int answerTop;
        private int freeAnswer = -1;
        int tableCount;
        int answerCount;
        private int room;
        private int leader = -1;
        private int round;
        private boolean news;
        private boolean gone;

        Tables(Terms terms, Kept spare) {
            this.terms = terms;
            this.spare = spare;
            kept = new Kept(terms, 256);
        }

        void clearAll() {
            kept.top = 0;
            tableTop = 0;
            answerTop = 0;
            freeAnswer = -1;
            tableCount = 0;
            answerCount = 0;
            room = 0;
            leader = -1;
            gone = false;
        }

        private int get(int t, int what) {
            return tables[t * T_WIDTH + what];
        }

        private void set(int t, int what, int value) {
            tables[t * T_WIDTH + what] = value;
        }

        /** A call of predicate p. */
        boolean call(Machine machine, long g, int p) {
            int t = find(g, p);
            if (terms.spent) {
                return false;
            }
            if (t < 0) {
                t = newTable(g, p);
                if (t < 0) {
                    return false;
                }
            }
            if (get(t, T_STATE) == T_COMPLETE) {
                return give(machine, g, t);
            }
            if (leader < 0) {
                leader = t;
                round++;
                news = false;
            } else if (get(t, T_ROUND) == round) {
                return give(machine, g, t);
            }
            return run(machine, g, t);
        }

        private int find(long g, int p) {
            for (int t = 0; t < tableTop; t++) {
                if (get(t, T_PRED) == p && get(t, T_STATE) != T_GONE) {
                    if (kept.isVariant(get(t, T_CALL), g)) {
                        return t;
                    }
                    if (terms.spent) {
                        return -1;
                    }
                }
            }
            return -1;
        }

        private int newTable(long g, int p) {
            int block = kept.keep(g, NONE);
            if (block < 0) {
                return -1;
            }
            int more = kept.roomOf(block);
            if (tableCount >= MOST_TABLES || room + more > MOST_TABLE_ROOM) {
                kept.top = block;
                terms.resourceError(A_TABLES);
                return -1;
            }
            if ((tableTop + 1) * T_WIDTH > tables.length) {
                tables = Arrays.copyOf(tables, tables.length * 2);
            }
            int t = tableTop++;
            set(t, T_PRED, p);
            set(t, T_CALL, block);
            set(t, T_STATE, T_OPEN);
            set(t, T_ROUND, -1);
            set(t, T_FIRST, -1);
            set(t, T_LAST, -1);
            set(t, T_COUNT, 0);
            tableCount++;
            room += more;
            return t;
        }

        /** Runs all clauses for a copy of the call; each answer comes to addAnswer, the end to finishRun. */
        private boolean run(Machine machine, long g, int t) {
            set(t, T_ROUND, round);
            machine.pushChoice(K_TABLE, g, t, 0, 0);
            long copy = kept.back(get(t, T_CALL));
            if (copy == NONE) {
                return false;
            }
            machine.cont = machine.pushFrame(F_ANSWER, t, copy);
            return machine.callClauses(copy, get(t, T_PRED));
        }

        /** Always false: the run goes on to look for more. */
        boolean addAnswer(int t, long answer) {
            int a = get(t, T_FIRST);
            for (int i = 0; i < LOOPS && a >= 0; i++) {
                if (kept.isVariant(answers[2 * a], answer) || terms.spent) {
                    return false;
                }
                a = answers[2 * a + 1];
            }
            int block = kept.keep(answer, NONE);
            if (block < 0) {
                return false;
            }
            if (answerCount >= MOST_ANSWERS || room + kept.roomOf(block) > MOST_TABLE_ROOM) {
                kept.top = block;
                return terms.resourceError(A_TABLES);
            }
            room += kept.roomOf(block);
            answerCount++;
            news = true;
            linkAnswer(t, newAnswer(block));
            return false;
        }

        private int newAnswer(int block) {
            int a = freeAnswer;
            if (a >= 0) {
                freeAnswer = answers[2 * a + 1];
            } else {
                if (2 * answerTop + 2 > answers.length) {
                    answers = Arrays.copyOf(answers, answers.length * 2);
                }
                a = answerTop++;
            }
            answers[2 * a] = block;
            answers[2 * a + 1] = -1;
            return a;
        }

        private void linkAnswer(int t, int a) {
            int last = get(t, T_LAST);
            if (last < 0) {
                set(t, T_FIRST, a);
            } else {
                answers[2 * last + 1] = a;
            }
            set(t, T_LAST, a);
            set(t, T_COUNT, get(t, T_COUNT) + 1);
        }

        /** A run has come to its end; the leader's goes on till a ROUND brings nothing new. */
        boolean finishRun(Machine machine, int choice) {
            int t = machine.numberOf(choice, K_A);
            long g = machine.termOf(choice);
            if (t == leader) {
                if (news) {
                    news = false;
                    round++;
                    return run(machine, g, t);
                }
                complete();
            }
            return give(machine, g, t);
        }

        private void complete() {
            leader = -1;
            for (int t = 0; t < tableTop; t++) {
                if (get(t, T_STATE) == T_OPEN) {
                    set(t, T_STATE, T_COMPLETE);
                }
            }
        }

        /** A ball leaves the run of a TABLE. */
        void abandon(int t) {
            if (t == leader) {
                dropOpen();
            }
        }

        /** The query is over, or the leader's run: what is not COMPLETE goes. */
        void dropOpen() {
            leader = -1;
            dropAll(T_OPEN);
        }

        void abolish() {
            dropAll(T_COMPLETE);
        }

        /** Answers that are being given stay where they are until the query is over. */
        private void dropAll(int state) {
            for (int t = 0; t < tableTop; t++) {
                if (get(t, T_STATE) == state) {
                    set(t, T_STATE, T_GONE);
                    gone = true;
                    tableCount--;
                    answerCount -= get(t, T_COUNT);
                    room -= kept.roomOf(get(t, T_CALL));
                    int a = get(t, T_FIRST);
                    for (int i = 0; i < LOOPS && a >= 0; i++) {
                        room -= kept.roomOf(answers[2 * a]);
                        a = answers[2 * a + 1];
                    }
                }
            }
        }

        /** The answers that there are now are a choice, that is tried by failing. */
        private boolean give(Machine machine, long g, int t) {
            int n = get(t, T_COUNT);
            if (n > 0) {
                machine.pushChoice(K_ANSWERS, g, get(t, T_FIRST), n, 0);
            }
            return false;
        }

        boolean nextAnswer(Machine machine, int choice) {
            int a = machine.numberOf(choice, K_A);
            int n = machine.numberOf(choice, K_B);
            long g = machine.termOf(choice);
            if (n <= 1) {
                machine.choiceTop = choice;
            } else {
                machine.setNumber(choice, K_A, answers[2 * a + 1]);
                machine.setNumber(choice, K_B, n - 1);
            }
            if (!terms.charge(1)) {
                return false;
            }
            long copy = kept.back(answers[2 * a]);
            return copy != NONE && terms.unify(g, copy);
        }

        /** Between queries nobody is given answers: those of TABLES that went are free again. */
        void sweep() {
            if (!gone) {
                return;
            }
            gone = false;
            spare.top = 0;
            int to = 0;
            for (int t = 0; t < tableTop; t++) {
                if (get(t, T_STATE) == T_GONE) {
                    freeAnswers(get(t, T_FIRST));
                } else {
                    System.arraycopy(tables, t * T_WIDTH, tables, to * T_WIDTH, T_WIDTH);
                    moveBlocks(to++);
                }
            }
            tableTop = to;
            kept.swap(spare);
            spare.top = 0;
        }

        private void freeAnswers(int first) {
            int a = first;
            for (int i = 0; i < LOOPS && a >= 0; i++) {
                int next = answers[2 * a + 1];
                answers[2 * a + 1] = freeAnswer;
                freeAnswer = a;
                a = next;
            }
        }

        private void moveBlocks(int t) {
            set(t, T_CALL, spare.append(kept, get(t, T_CALL)));
            int a = get(t, T_FIRST);
            for (int i = 0; i < LOOPS && a >= 0; i++) {
                answers[2 * a] = spare.append(kept, answers[2 * a]);
                a = answers[2 * a + 1];
            }
        }

        void markAtoms() {
            terms.atoms.markCells(kept.cells, kept.top);
        }
    }

    /** The FIXED predicates that look at terms, make them, compare them, and those of lists and numbers. */
    static final class Builtins {
        private final Terms terms;
        private final Kept bag;
        /** Expressions: what is still to be worked out, or, with a mark, to be done with values. */
        private long[] todo = new long[32];
        private long[] values = new long[32];
        private int valueCount;
        /** What was worked out last. */
        long value;

        Builtins(Terms terms, Kept bag) {
            this.terms = terms;
            this.bag = bag;
        }

        boolean call(Machine machine, int id, long g) {
            long a = terms.argument(g, 1);
            if (id >= P_VAR && id <= P_GROUND) {
                return test(id, a);
            }
            long b = terms.argument(g, 2);
            if (id >= P_SAME && id <= P_NOT_BEFORE) {
                return compares(id, a, b);
            }
            if (id >= P_EQUAL) {
                return holds(id, a, b);
            }
            switch (id) {
                case P_UNIFY:
                    return terms.unify(a, b);
                case P_NOT_UNIFY:
                    return differ(a, b);
                case P_COMPARE:
                    return compare(a, b, terms.argument(g, 3));
                case P_FUNCTOR:
                    return functor(a, b, terms.argument(g, 3));
                case P_ARG:
                    return arg(a, b, terms.argument(g, 3));
                case P_UNIV:
                    return Terms.isVariable(a) ? fromList(a, b) : toList(a, b);
                case P_COPY_TERM:
                    return copy(a, b);
                case P_TERM_VARIABLES:
                    long variables = machine.bags.variablesOf(a);
                    return variables != NONE && terms.unify(b, variables);
                case P_SORT:
                case P_MSORT:
                case P_KEYSORT:
                    return sort(machine.bags, id, a, b);
                case P_LENGTH:
                    return length(machine, g, a, b);
                case P_BETWEEN:
                    return between(machine, g);
                default:
                    return eval(b) && terms.unify(a, terms.integer(value));
            }
        }

        boolean redo(Machine machine, int id, int choice) {
            return id == P_BETWEEN ? nextBetween(machine, choice) : nextLength(machine, choice);
        }

        private boolean test(int id, long t) {
            switch (id) {
                case P_VAR:
                    return Terms.isVariable(t);
                case P_NONVAR:
                    return !Terms.isVariable(t);
                case P_ATOM:
                    return Terms.isAtom(t);
                case P_INTEGER:
                    return Terms.isInteger(t);
                case P_ATOMIC:
                    return Terms.isAtom(t) || Terms.isInteger(t);
                case P_COMPOUND:
                    return Terms.isCompound(t);
                case P_CALLABLE:
                    return Terms.isAtom(t) || Terms.isCompound(t);
                case P_IS_LIST:
                    return payElements(t) >= 0 && terms.listLength(t) >= 0;
                default:
                    return isGround(t);
            }
        }

        /** Pays for the elements of a list, or of what there is of one: how many, or -1 if WORK is spent. */
        private int payElements(long list) {
            long t = list;
            int n = 0;
            for (int i = 0; i < LOOPS && terms.hasFunctor(t, A_DOT, 2); i++) {
                n++;
                t = terms.argument(t, 2);
            }
            return terms.charge(n) ? n : -1;
        }

        private boolean isGround(long term) {
            boolean ground = true;
            int sp = 0;
            long t = term;
            for (int i = 0; i < LOOPS; i++) {
                if (!terms.charge(1)) {
                    return false;
                }
                t = terms.deref(t);
                ground &= !Terms.isVariable(t);
                if (Terms.isCompound(t)) {
                    terms.roomForWalk(sp);
                    terms.walk[sp] = Terms.at(t) + 1;
                    terms.walk[sp + 1] = Terms.arityOf(terms.cells[Terms.at(t)]);
                    sp += 2;
                }
                if (sp == 0) {
                    return ground;
                }
                int next = terms.walk[sp - 2]++;
                if (--terms.walk[sp - 1] == 0) {
                    sp -= 2;
                }
                t = terms.cells[next];
            }
            return false;
        }

        private boolean compares(int id, long a, long b) {
            int order = terms.compareTerms(a, b);
            if (terms.spent) {
                return false;
            }
            switch (id) {
                case P_SAME:
                    return order == 0;
                case P_NOT_SAME:
                    return order != 0;
                case P_BEFORE:
                    return order < 0;
                case P_AFTER:
                    return order > 0;
                case P_NOT_AFTER:
                    return order <= 0;
                default:
                    return order >= 0;
            }
        }

        private boolean differ(long a, long b) {
            int mark = terms.trailTop;
            boolean unified = terms.unify(a, b);
            terms.undo(mark);
            return !unified && !terms.spent;
        }

        private boolean compare(long order, long a, long b) {
            if (!Terms.isVariable(order)) {
                if (!Terms.isAtom(order)) {
                    return terms.typeError(A_ATOM_TYPE, order);
                }
                int name = Terms.at(order);
                if (name != A_LESS && name != A_EQUALS && name != A_GREATER) {
                    return terms.domainError(A_ORDER, order);
                }
            }
            int d = terms.compareTerms(a, b);
            return !terms.spent && terms.unify(order, Terms.atom(d < 0 ? A_LESS : d > 0 ? A_GREATER : A_EQUALS));
        }

        private boolean functor(long t, long name, long arity) {
            if (Terms.isVariable(t)) {
                return makeFunctor(t, name, arity);
            }
            if (!Terms.isCompound(t)) {
                return terms.unify(name, t) && terms.unify(arity, terms.integer(0));
            }
            long f = terms.functorOf(t);
            return terms.unify(name, Terms.atom(Terms.nameOf(f)))
                    && terms.unify(arity, terms.integer(Terms.arityOf(f)));
        }

        private boolean makeFunctor(long t, long name, long arity) {
            if (Terms.isVariable(name) || Terms.isVariable(arity)) {
                return terms.instantiationError();
            }
            if (!Terms.isInteger(arity)) {
                return terms.typeError(A_INTEGER, arity);
            }
            long n = terms.valueOf(arity);
            if (n < 0) {
                return terms.domainError(A_NOT_LESS, arity);
            }
            if (n > MOST_ARGUMENTS) {
                return terms.representationError(A_MAX_ARITY);
            }
            if (Terms.isCompound(name)) {
                return terms.typeError(A_ATOMIC, name);
            }
            if (n == 0) {
                return terms.unify(t, name);
            }
            if (!Terms.isAtom(name)) {
                return terms.typeError(A_ATOM_TYPE, name);
            }
            if (!terms.charge((int) n)) {
                return false;
            }
            int s = terms.alloc((int) n + 1);
            terms.cells[s] = Terms.functor(Terms.at(name), (int) n);
            for (int i = 1; i <= n; i++) {
                terms.cells[s + i] = Terms.ref(s + i);
            }
            return terms.unify(t, (long) s << 3 | STR);
        }

        private boolean arg(long number, long t, long argument) {
            if (Terms.isVariable(number)) {
                return terms.instantiationError();
            }
            if (!Terms.isInteger(number)) {
                return terms.typeError(A_INTEGER, number);
            }
            if (Terms.isVariable(t)) {
                return terms.instantiationError();
            }
            if (!Terms.isCompound(t)) {
                return terms.typeError(A_COMPOUND, t);
            }
            long n = terms.valueOf(number);
            if (n < 0) {
                return terms.domainError(A_NOT_LESS, number);
            }
            return n > 0 && n <= Terms.arityOf(terms.functorOf(t))
                    && terms.unify(argument, terms.argument(t, (int) n));
        }

        private boolean toList(long t, long list) {
            long made = NIL;
            long first = t;
            if (Terms.isCompound(t)) {
                long f = terms.functorOf(t);
                if (!terms.charge(Terms.arityOf(f))) {
                    return false;
                }
                first = Terms.atom(Terms.nameOf(f));
                for (int i = Terms.arityOf(f); i > 0; i--) {
                    made = terms.struct(A_DOT, terms.argument(t, i), made);
                }
            }
            return terms.unify(list, terms.struct(A_DOT, first, made));
        }

        private boolean fromList(long t, long list) {
            int n = terms.listLength(list);
            if (n < 0) {
                return n == -1 ? terms.instantiationError() : terms.typeError(A_LIST, list);
            }
            if (n == 0) {
                return terms.domainError(A_NON_EMPTY, list);
            }
            long first = terms.argument(list, 1);
            if (Terms.isVariable(first)) {
                return terms.instantiationError();
            }
            if (Terms.isCompound(first)) {
                return terms.typeError(A_ATOMIC, first);
            }
            if (n == 1) {
                return terms.unify(t, first);
            }
            if (!Terms.isAtom(first)) {
                return terms.typeError(A_ATOM_TYPE, first);
            }
            if (n - 1 > MOST_ARGUMENTS) {
                return terms.representationError(A_MAX_ARITY);
            }
            if (!terms.charge(n - 1)) {
                return false;
            }
            int s = terms.alloc(n);
            terms.cells[s] = Terms.functor(Terms.at(first), n - 1);
            long rest = terms.argument(list, 2);
            for (int i = 1; i < n; i++) {
                terms.cells[s + i] = terms.argument(rest, 1);
                rest = terms.argument(rest, 2);
            }
            return terms.unify(t, (long) s << 3 | STR);
        }

        private boolean copy(long t, long copy) {
            int block = bag.keep(t, NONE);
            if (block < 0) {
                return false;
            }
            long made = bag.build(bag.open(block), 0);
            bag.top = block;
            return terms.unify(copy, made);
        }

        private boolean sort(Bags bags, int id, long list, long sorted) {
            int n = terms.listLength(list);
            if (n < 0) {
                return n == -1 ? terms.instantiationError() : terms.typeError(A_LIST, list);
            }
            bags.rowOfList(list);
            for (int i = 0; i < n && id == P_KEYSORT; i++) {
                if (Terms.isVariable(bags.row[i])) {
                    return terms.instantiationError();
                }
                if (!terms.hasFunctor(bags.row[i], A_MINUS, 2)) {
                    return terms.typeError(A_PAIR, bags.row[i]);
                }
            }
            if (!bags.sortRow(n, id == P_KEYSORT)) {
                return false;
            }
            int left = id == P_SORT ? bags.dropEqual(n) : n;
            return left >= 0 && terms.unify(sorted, bags.listOfRow(left));
        }

        private boolean length(Machine machine, long g, long list, long number) {
            if (!Terms.isVariable(number)) {
                if (!Terms.isInteger(number)) {
                    return terms.typeError(A_INTEGER, number);
                }
                if (terms.valueOf(number) < 0) {
                    return terms.domainError(A_NOT_LESS, number);
                }
            }
            int n = payElements(list);
            if (n < 0) {
                return false;
            }
            int ending = terms.listLength(list);
            if (ending == -2) {
                return terms.typeError(A_LIST, list);
            }
            if (ending >= 0) {
                return terms.unify(number, terms.integer(n));
            }
            if (Terms.isVariable(number)) {
                machine.pushChoice(K_BUILTIN, g, n, 0, P_LENGTH);
                return false;
            }
            long more = terms.valueOf(number) - n;
            return more >= 0 && extend(list, n, more);
        }

        /** Unifies the end of an open list of n elements with a list of so many new variables. */
        private boolean extend(long list, int n, long more) {
            if (!terms.charge((int) Math.min(more, UNMETERED))) {
                return false;
            }
            int count = (int) more;
            int s = terms.alloc(3 * count);
            for (int i = 0; i < count; i++) {
                int at = s + 3 * i;
                terms.cells[at] = Terms.functor(A_DOT, 2);
                terms.cells[at + 1] = Terms.ref(at + 1);
                terms.cells[at + 2] = i + 1 < count ? (long) (at + 3) << 3 | STR : NIL;
            }
            long end = list;
            for (int i = 0; i < n; i++) {
                end = terms.argument(end, 2);
            }
            return terms.unify(end, count == 0 ? NIL : (long) s << 3 | STR);
        }

        private boolean nextLength(Machine machine, int choice) {
            long g = machine.termOf(choice);
            int n = machine.numberOf(choice, K_A);
            int more = machine.numberOf(choice, K_B);
            machine.setNumber(choice, K_B, more + 1);
            return terms.charge(1) && extend(terms.argument(g, 1), n, more)
                    && terms.unify(terms.argument(g, 2), terms.integer((long) n + more));
        }

        private boolean isInteger(long t) {
            return Terms.isInteger(t) || terms.typeError(A_INTEGER, t);
        }

        private boolean between(Machine machine, long g) {
            long low = terms.argument(g, 1);
            long high = terms.argument(g, 2);
            long x = terms.argument(g, 3);
            if (Terms.isVariable(low)) {
                return terms.instantiationError();
            }
            if (!isInteger(low)) {
                return false;
            }
            if (Terms.isVariable(high)) {
                return terms.instantiationError();
            }
            if (!isInteger(high)) {
                return false;
            }
            if (!Terms.isVariable(x)) {
                return isInteger(x) && terms.charge(1) && terms.valueOf(low) <= terms.valueOf(x)
                        && terms.valueOf(x) <= terms.valueOf(high);
            }
            if (terms.valueOf(low) > terms.valueOf(high)) {
                return false;
            }
            machine.setMore(machine.pushChoice(K_BUILTIN, g, 0, 0, P_BETWEEN), terms.valueOf(low));
            return false;
        }

        /** The number that is next stands itself, not as a cell, beside the choice. */
        private boolean nextBetween(Machine machine, int choice) {
            long g = machine.termOf(choice);
            long x = machine.moreOf(choice);
            if (x >= terms.valueOf(terms.argument(g, 2))) {
                machine.choiceTop = choice;
            } else {
                machine.setMore(choice, x + 1);
            }
            return terms.charge(1) && terms.unify(terms.argument(g, 3), terms.integer(x));
        }

        private void push(int n, long cell) {
            if (n + 1 > todo.length) {
                todo = Arrays.copyOf(todo, todo.length * 2);
            }
            todo[n] = cell;
        }

        private void pushValue(long v) {
            if (valueCount == values.length) {
                values = Arrays.copyOf(values, valueCount * 2);
            }
            values[valueCount++] = v;
        }

        /** Works out an expression into value; false with its ERROR, or if WORK is spent. */
        boolean eval(long expression) {
            int n = 0;
            valueCount = 0;
            push(n++, expression);
            for (int i = 0; i < LOOPS && n > 0; i++) {
                long t = todo[--n];
                if (Terms.tag(t) == FUN) {
                    int arity = Terms.arityOf(t);
                    if (valueCount < arity) {
                        return false;
                    }
                    valueCount -= arity;
                    long one = values[valueCount];
                    int error = arity == 1 ? applyOne(Terms.nameOf(t), one)
                            : applyTwo(Terms.nameOf(t), one, values[valueCount + 1]);
                    if (error != NO_ERROR) {
                        return error == A_FLOAT ? terms.typeError(A_FLOAT, terms.integer(one))
                                : terms.evaluationError(error);
                    }
                    pushValue(value);
                    continue;
                }
                t = terms.deref(t);
                if (!terms.charge(1)) {
                    return false;
                }
                if (Terms.isInteger(t)) {
                    pushValue(terms.valueOf(t));
                } else if (!isEvaluable(t)) {
                    return false;
                } else {
                    int s = Terms.at(t);
                    push(n++, terms.cells[s]);
                    for (int k = Terms.arityOf(terms.cells[s]); k > 0; k--) {
                        push(n++, terms.cells[s + k]);
                    }
                }
            }
            value = valueCount > 0 ? values[0] : 0;
            return true;
        }

        private boolean isEvaluable(long t) {
            if (Terms.isVariable(t)) {
                return terms.instantiationError();
            }
            long f = terms.goalFunctor(t);
            int name = Terms.nameOf(f);
            int arity = Terms.arityOf(f);
            if (arity == 2 && (name >= A_MINUS && name <= A_POWER)) {
                return true;
            }
            if (arity == 1 && (name == A_MINUS || name == A_PLUS || name >= A_INVERT && name <= A_MSB)) {
                return true;
            }
            return terms.typeError(A_EVALUABLE, terms.indicator(f));
        }

        /** Works out into value; NO_ERROR, or what the ERROR is about. */
        private int applyOne(int name, long a) {
            value = a;
            switch (name) {
                case A_MINUS:
                    value = -a;
                    return a == Long.MIN_VALUE ? A_OVERFLOW : NO_ERROR;
                case A_INVERT:
                    value = ~a;
                    return NO_ERROR;
                case A_ABS:
                    value = a < 0 ? -a : a;
                    return a == Long.MIN_VALUE ? A_OVERFLOW : NO_ERROR;
                case A_SIGN:
                    value = a < 0 ? -1 : a > 0 ? 1 : 0;
                    return NO_ERROR;
                case A_MSB:
                    value = 0;
                    for (int i = 1; i < 63; i++) {
                        value = a >> i != 0 ? i : value;
                    }
                    return a > 0 ? NO_ERROR : A_UNDEFINED;
                default:
                    return NO_ERROR;
            }
        }

        private int applyTwo(int name, long a, long b) {
            switch (name) {
                case A_PLUS:
                    value = a + b;
                    return ((a ^ value) & (b ^ value)) < 0 ? A_OVERFLOW : NO_ERROR;
                case A_MINUS:
                    value = a - b;
                    return ((a ^ b) & (a ^ value)) < 0 ? A_OVERFLOW : NO_ERROR;
                case A_TIMES:
                    value = a * b;
                    return fitsProduct(a, b) ? NO_ERROR : A_OVERFLOW;
                case A_MIN:
                    value = Math.min(a, b);
                    return NO_ERROR;
                case A_MAX:
                    value = Math.max(a, b);
                    return NO_ERROR;
                case A_GCD:
                    return gcd(a, b);
                case A_SHL:
                case A_SHR:
                    return shift(name, a, b);
                case A_AND:
                    value = a & b;
                    return NO_ERROR;
                case A_OR:
                    value = a | b;
                    return NO_ERROR;
                case A_XOR:
                    value = a ^ b;
                    return NO_ERROR;
                case A_CARET:
                case A_POWER:
                    return power(a, b);
                default:
                    return divide(name, a, b);
            }
        }

        private static boolean fitsProduct(long a, long b) {
            if (a == 0 || b == 0) {
                return true;
            }
            if (a == -1 && b == Long.MIN_VALUE || b == -1 && a == Long.MIN_VALUE) {
                return false;
            }
            return a * b / b == a;
        }

        private int divide(int name, long a, long b) {
            if (b == 0) {
                return A_ZERO_DIVISOR;
            }
            // By -1 the machine's own division of -2^63 would go beyond.
            long rest = b == -1 ? 0 : a % b;
            boolean mixed = rest != 0 && (rest < 0) != (b < 0);
            if (name == A_REM || name == A_MOD) {
                value = name == A_MOD && mixed ? rest + b : rest;
                return NO_ERROR;
            }
            value = b == -1 ? -a : a / b;
            if (b == -1 && a == Long.MIN_VALUE) {
                return A_OVERFLOW;
            }
            value = name == A_DIV && mixed ? value - 1 : value;
            return name == A_SLASH && rest != 0 ? A_UNDEFINED : NO_ERROR;
        }

        private int gcd(long a, long b) {
            long x = a;
            long y = b;
            for (int i = 0; i < 200 && y != 0; i++) {
                long rest = y == -1 ? 0 : x % y;
                x = y;
                y = rest;
            }
            value = x < 0 ? -x : x;
            return x == Long.MIN_VALUE ? A_OVERFLOW : NO_ERROR;
        }

        private int shift(int name, long a, long b) {
            if (b < 0 || b > 63) {
                return A_UNDEFINED;
            }
            int n = (int) b;
            value = name == A_SHR ? a >> n : a << n;
            return name == A_SHR || value >> n == a ? NO_ERROR : A_OVERFLOW;
        }

        private int power(long base, long exponent) {
            if (exponent < 0) {
                value = base == 1 || (exponent & 1) == 0 ? 1 : -1;
                return base == 1 || base == -1 ? NO_ERROR : base == 0 ? A_ZERO_DIVISOR : A_FLOAT;
            }
            value = 1;
            long factor = base;
            long left = exponent;
            for (int i = 0; i < 64 && left > 0; i++) {
                if ((left & 1) != 0) {
                    if (!fitsProduct(value, factor)) {
                        return A_OVERFLOW;
                    }
                    value *= factor;
                }
                left >>= 1;
                if (left > 0) {
                    if (!fitsProduct(factor, factor)) {
                        return A_OVERFLOW;
                    }
                    factor *= factor;
                }
            }
            return NO_ERROR;
        }

        /** The comparison of two expressions by the number of its predicate. */
        boolean holds(int id, long left, long right) {
            if (!eval(left)) {
                return false;
            }
            long a = value;
            if (!eval(right)) {
                return false;
            }
            int order = Long.compare(a, value);
            switch (id) {
                case P_EQUAL:
                    return order == 0;
                case P_UNEQUAL:
                    return order != 0;
                case P_LESS:
                    return order < 0;
                case P_GREATER:
                    return order > 0;
                case P_AT_MOST:
                    return order <= 0;
                default:
                    return order >= 0;
            }
        }
    }

    /** The FIXED predicates that change or look at the program, the operators, the values of keys and the TABLES. */
    static final class Database {
        private final Terms terms;
        private final Atoms atoms;
        private final Program program;
        private final Tables tables;
        /** The keys that were ever set, in order; their values are held, a kept one as the number of its block. */
        private final int[] keys = new int[MOST_KEYS];
        private int keyCount;
        private final Kept values;
        private long[] todo = new long[32];

        Database(Terms terms, Program program, Tables tables) {
            this.terms = terms;
            this.atoms = terms.atoms;
            this.program = program;
            this.tables = tables;
            values = new Kept(terms, 64);
        }

        boolean call(Machine machine, int id, long g) {
            long a = id == P_ABOLISH ? NONE : terms.argument(g, 1);
            switch (id) {
                case P_ASSERTZ:
                case P_ASSERTA:
                    return program.add(a, id == P_ASSERTZ, false);
                case P_RETRACT:
                    return retract(machine, g, a);
                case P_RETRACTALL:
                    return retractAll(a);
                case P_CLAUSE:
                    return clause(machine, g);
                case P_DYNAMIC:
                case P_TABLE:
                    return declare(a, id == P_TABLE);
                case P_CURRENT_PREDICATE:
                    return currentPredicate(machine, g, a);
                case P_NB_SETVAL:
                case P_B_SETVAL:
                    return setValue(a, terms.argument(g, 2), id == P_NB_SETVAL);
                case P_NB_GETVAL:
                case P_B_GETVAL:
                    return getValue(a, terms.argument(g, 2));
                case P_ABOLISH:
                    tables.abolish();
                    return true;
                case P_OP:
                    return setOperators(a, terms.argument(g, 2), terms.argument(g, 3));
                default:
                    machine.pushChoice(K_BUILTIN, g, 0, 0, P_CURRENT_OP);
                    return false;
            }
        }

        boolean redo(Machine machine, int id, int choice) {
            switch (id) {
                case P_RETRACT:
                    return nextRetract(machine, choice);
                case P_CLAUSE:
                    return nextClause(machine, choice);
                case P_CURRENT_PREDICATE:
                    return nextPredicate(machine, choice);
                default:
                    return nextOperator(machine, choice);
            }
        }

        private boolean retract(Machine machine, long g, long clause) {
            long head = program.headOf(clause);
            if (!program.isCallable(head)) {
                return false;
            }
            long functor = terms.goalFunctor(head);
            if (!program.isModifiable(functor)) {
                return false;
            }
            pushClauses(machine, g, program.find(functor), P_RETRACT);
            return false;
        }

        /** The clauses that there are now are a choice, that is tried by failing. */
        private void pushClauses(Machine machine, long g, int p, int id) {
            int first = p < 0 ? -1 : program.firstOf(p, program.stamp);
            if (first >= 0) {
                machine.pushChoice(K_BUILTIN, g, first, program.stamp, id);
            }
        }

        /** The clause that a choice is at; the choice goes on to the next, or goes. */
        private int step(Machine machine, int choice) {
            int c = machine.numberOf(choice, K_A);
            int next = program.nextOf(c, machine.numberOf(choice, K_B));
            if (next < 0) {
                machine.choiceTop = choice;
            } else {
                machine.setNumber(choice, K_A, next);
            }
            return c;
        }

        private boolean nextRetract(Machine machine, int choice) {
            long clause = terms.argument(machine.termOf(choice), 1);
            int c = step(machine, choice);
            long head = program.headOf(clause);
            if (!program.isThere(c) || !unifyCopy(c, head, program.bodyOf(clause))) {
                return false;
            }
            program.remove(program.find(terms.goalFunctor(head)), c);
            return true;
        }

        /** Unifies a head and a body with those of a copy of a clause. */
        private boolean unifyCopy(int c, long head, long body) {
            Kept code = program.code;
            int block = program.blockOf(c);
            if (!terms.charge(1 + code.partsOf(block))) {
                return false;
            }
            int base = code.open(block);
            long copiedHead = code.build(base, 0);
            long copiedBody = code.build(base, 0);
            return terms.unify(head, copiedHead) && terms.unify(body, copiedBody);
        }

        private boolean retractAll(long head) {
            if (!program.isCallable(head)) {
                return false;
            }
            long functor = terms.goalFunctor(head);
            if (!program.isModifiable(functor)) {
                return false;
            }
            int p = program.known(functor);
            if (p < 0) {
                return terms.resourceError(A_PREDICATES);
            }
            int time = program.stamp;
            int c = program.firstOf(p, time);
            for (int i = 0; i < LOOPS && c >= 0; i++) {
                int mark = terms.trailTop;
                int top = terms.top;
                boolean fits = program.code.unifyHead(program.code.open(program.blockOf(c)), head);
                terms.undo(mark);
                terms.top = top;
                if (terms.spent) {
                    return false;
                }
                int next = program.nextOf(c, time);
                if (fits) {
                    program.remove(p, c);
                }
                c = next;
            }
            return true;
        }

        private boolean clause(Machine machine, long g) {
            long head = terms.argument(g, 1);
            long body = terms.argument(g, 2);
            if (!program.isCallable(head)) {
                return false;
            }
            if (Terms.isInteger(body)) {
                return terms.typeError(A_CALLABLE, body);
            }
            long functor = terms.goalFunctor(head);
            int p = program.find(functor);
            if (program.isFixed(p)) {
                return terms.permissionError(A_ACCESS, A_PRIVATE, terms.indicator(functor));
            }
            pushClauses(machine, g, p, P_CLAUSE);
            return false;
        }

        private boolean nextClause(Machine machine, int choice) {
            long g = machine.termOf(choice);
            return unifyCopy(step(machine, choice), terms.argument(g, 1), terms.argument(g, 2));
        }

        /** dynamic and table: all N/A of a term, in order. */
        private boolean declare(long indicators, boolean table) {
            int n = 0;
            todo[n++] = indicators;
            for (int i = 0; i < LOOPS && n > 0; i++) {
                long t = terms.deref(todo[--n]);
                if (terms.hasFunctor(t, A_COMMA, 2) || terms.hasFunctor(t, A_DOT, 2)) {
                    if (n + 2 > todo.length) {
                        todo = Arrays.copyOf(todo, todo.length * 2);
                    }
                    todo[n++] = terms.argument(t, 2);
                    todo[n++] = terms.argument(t, 1);
                } else if (t != NIL && !declareOne(t, table)) {
                    return false;
                }
            }
            return true;
        }

        private boolean declareOne(long t, boolean table) {
            if (Terms.isVariable(t)) {
                return terms.instantiationError();
            }
            if (!terms.hasFunctor(t, A_SLASH, 2)) {
                return terms.typeError(A_INDICATOR, t);
            }
            if (Terms.isVariable(terms.argument(t, 1)) || Terms.isVariable(terms.argument(t, 2))) {
                return terms.instantiationError();
            }
            long functor = functorTold(t);
            if (functor == NONE) {
                return terms.typeError(A_INDICATOR, t);
            }
            if (!program.isModifiable(functor)) {
                return false;
            }
            if (table) {
                program.tell(functor);
                return true;
            }
            return program.known(functor) >= 0 || terms.resourceError(A_PREDICATES);
        }

        /** The functor that N/A tells, or NONE if it is none such. */
        long functorTold(long t) {
            if (!terms.hasFunctor(t, A_SLASH, 2)) {
                return NONE;
            }
            long name = terms.argument(t, 1);
            long arity = terms.argument(t, 2);
            if (!Terms.isAtom(name) || !Terms.isInteger(arity)) {
                return NONE;
            }
            long n = terms.valueOf(arity);
            return n < 0 || n > MOST_ARGUMENTS ? NONE : Terms.functor(Terms.at(name), (int) n);
        }

        private boolean currentPredicate(Machine machine, long g, long told) {
            if (!Terms.isVariable(told) && !terms.hasFunctor(told, A_SLASH, 2)) {
                return terms.typeError(A_INDICATOR, told);
            }
            machine.pushChoice(K_BUILTIN, g, 0, 0, P_CURRENT_PREDICATE);
            return false;
        }

        private int nextWithClauses(int from) {
            for (int i = from; i < program.knownCount; i++) {
                if (program.preds[program.knownAt(i) * R_WIDTH + R_LIVE] > 0) {
                    return i;
                }
            }
            return -1;
        }

        private boolean nextPredicate(Machine machine, int choice) {
            int i = nextWithClauses(machine.numberOf(choice, K_A));
            if (i < 0) {
                machine.choiceTop = choice;
                return false;
            }
            long told = terms.argument(machine.termOf(choice), 1);
            // What is left is asked for when it is tried: more may have come till then.
            machine.setNumber(choice, K_A, i + 1);
            return terms.charge(1) && terms.unify(told, terms.indicator(program.functorOf(program.knownAt(i))));
        }

        /** The place of a key, or -1 if it was never set. */
        private int findKey(int atom) {
            for (int i = 0; i < keyCount; i++) {
                if (keys[i] == atom) {
                    return i;
                }
            }
            return -1;
        }

        private boolean isKey(long key) {
            if (Terms.isVariable(key)) {
                return terms.instantiationError();
            }
            return Terms.isAtom(key) || terms.typeError(A_ATOM_TYPE, key);
        }

        private boolean setValue(long key, long value, boolean keep) {
            if (!isKey(key)) {
                return false;
            }
            int block = keep ? values.keep(value, NONE) : 0;
            if (block < 0) {
                return false;
            }
            int at = findKey(Terms.at(key));
            if (at < 0 && keyCount < MOST_KEYS) {
                // Nobody sees it before it is set: it counts as a key from then on alone.
                at = keyCount;
                terms.held[at] = NONE;
            }
            int room = at < 0 || !keep ? 0 : values.roomOf(block) - Terms.keptRoom(terms.held[at]);
            if (at < 0 || terms.valueRoom + room > MOST_VALUE_ROOM) {
                values.top = keep ? block : values.top;
                return terms.resourceError(A_VALUES);
            }
            keys[at] = Terms.at(key);
            keyCount = Math.max(keyCount, at + 1);
            if (keep) {
                terms.valueRoom += room;
                terms.held[at] = Terms.keptValue(block, values.roomOf(block));
            } else {
                terms.hold(at, value);
            }
            return true;
        }

        private boolean getValue(long key, long value) {
            if (!isKey(key)) {
                return false;
            }
            int at = findKey(Terms.at(key));
            if (at < 0 || terms.held[at] == NONE) {
                return terms.existenceError(A_VARIABLE, key);
            }
            long held = terms.held[at];
            if (Terms.tag(held) == VARN) {
                held = values.back(Terms.at(held));
            }
            return held != NONE && terms.unify(value, held);
        }

        private boolean setOperators(long strength, long type, long names) {
            if (Terms.isVariable(strength)) {
                return terms.instantiationError();
            }
            if (!Terms.isInteger(strength)) {
                return terms.typeError(A_INTEGER, strength);
            }
            if (terms.valueOf(strength) < 0 || terms.valueOf(strength) > 1200) {
                return terms.domainError(A_PRIORITY, strength);
            }
            if (Terms.isVariable(type)) {
                return terms.instantiationError();
            }
            if (!Terms.isAtom(type)) {
                return terms.typeError(A_ATOM_TYPE, type);
            }
            if (Terms.at(type) < A_XFX || Terms.at(type) > A_FY) {
                return terms.domainError(A_SPECIFIER, type);
            }
            int s = (int) terms.valueOf(strength);
            if (Terms.isAtom(names) && Terms.at(names) != A_NIL) {
                return isOperatorName(names) && setOperator(s, Terms.at(type), names);
            }
            return areOperatorNames(names) && setAll(s, Terms.at(type), names);
        }

        private boolean areOperatorNames(long names) {
            int n = terms.listLength(names);
            if (n < 0) {
                return n == -1 ? terms.instantiationError() : terms.typeError(A_LIST, names);
            }
            long t = names;
            for (int i = 0; i < n; i++) {
                if (!isOperatorName(terms.argument(t, 1))) {
                    return false;
                }
                t = terms.argument(t, 2);
            }
            return true;
        }

        private boolean isOperatorName(long name) {
            if (Terms.isVariable(name)) {
                return terms.instantiationError();
            }
            if (!Terms.isAtom(name)) {
                return terms.typeError(A_ATOM_TYPE, name);
            }
            int atom = Terms.at(name);
            if (atom == A_COMMA) {
                return terms.permissionError(A_MODIFY, A_OPERATOR, name);
            }
            if (atom == A_NIL || atom == A_CURLY || atom == A_BAR) {
                return terms.permissionError(A_CREATE, A_OPERATOR, name);
            }
            return true;
        }

        private boolean setOperator(int strength, int type, long name) {
            return atoms.setOperator(strength, type, Terms.at(name)) || terms.resourceError(A_OPERATORS);
        }

        private boolean setAll(int strength, int type, long names) {
            long t = names;
            for (int i = 0; i < LOOPS && terms.hasFunctor(t, A_DOT, 2); i++) {
                if (!setOperator(strength, type, terms.argument(t, 1))) {
                    return false;
                }
                t = terms.argument(t, 2);
            }
            return true;
        }

        private boolean nextOperator(Machine machine, int choice) {
            long g = machine.termOf(choice);
            int i = machine.numberOf(choice, K_A);
            if (i >= atoms.opCount) {
                machine.choiceTop = choice;
                return false;
            }
            machine.setNumber(choice, K_A, i + 1);
            return terms.charge(1) && terms.unify(terms.argument(g, 1), terms.integer(atoms.opStrength[i]))
                    && terms.unify(terms.argument(g, 2), Terms.atom(atoms.opType[i]))
                    && terms.unify(terms.argument(g, 3), Terms.atom(atoms.opName[i]));
        }

        void clearAll() {
            keyCount = 0;
            values.top = 0;
            terms.valueRoom = 0;
        }

        /** Between queries only the values that stand are needed. */
        void sweep(Kept spare) {
            if (values.top < SWEEP_VALUES) {
                return;
            }
            spare.top = 0;
            for (int i = 0; i < keyCount; i++) {
                long held = terms.held[i];
                if (Terms.tag(held) == VARN) {
                    terms.held[i] = Terms.keptValue(spare.append(values, Terms.at(held)), Terms.keptRoom(held));
                }
            }
            values.swap(spare);
            spare.top = 0;
        }

        void markAtoms() {
            for (int i = 0; i < keyCount; i++) {
                atoms.mark(keys[i]);
            }
            atoms.markCells(values.cells, values.top);
            for (int i = 0; i < atoms.opCount; i++) {
                atoms.mark(atoms.opName[i]);
            }
        }
    }

    /** The FIXED predicates of texts and of what is written; OUT. */
    static final class Texts {
        private final Terms terms;
        private final Atoms atoms;
        private final Writer writer;
        private final Builtins builtins;
        private final Reader reader;
        byte[] out = new byte[1024];
        int outSize;
        /** Texts that are looked at or made. */
        private byte[] text = new byte[512];
        private int size;

        Texts(Terms terms, Writer writer, Builtins builtins) {
            this.terms = terms;
            this.atoms = terms.atoms;
            this.writer = writer;
            this.builtins = builtins;
            reader = new Reader(terms);
        }

        boolean call(Machine machine, int id, long g) {
            long a = id == P_NL ? NONE : terms.argument(g, 1);
            if (id >= P_WRITE) {
                return id == P_TAB ? tab(a) : write(id, a);
            }
            long b = terms.argument(g, 2);
            switch (id) {
                case P_ATOM_LENGTH:
                    return atomLength(a, b);
                case P_ATOM_CONCAT:
                    return atomConcat(machine, g);
                case P_SUB_ATOM:
                    return subAtom(machine, g);
                case P_ATOM_CODES:
                case P_ATOM_CHARS:
                    return atomList(a, b, id == P_ATOM_CHARS);
                case P_CHAR_CODE:
                    return charCode(a, b);
                case P_NUMBER_CODES:
                    return numberCodes(a, b);
                case P_ATOM_NUMBER:
                    return atomNumber(a, b);
                default:
                    return upcase(a, b);
            }
        }

        boolean redo(Machine machine, int id, int choice) {
            return id == P_SUB_ATOM ? nextSub(machine, choice) : nextSplit(machine, choice);
        }

        /** Charges for the text of the writer and puts it into OUT; what has no place there is lost. */
        private boolean putOut() {
            if (!terms.charge(writer.size)) {
                return false;
            }
            int n = Math.min(writer.size, OUT_SIZE - outSize);
            for (int i = 0; i < 8 && outSize + n > out.length; i++) {
                out = Arrays.copyOf(out, out.length * 2);
            }
            System.arraycopy(writer.text, 0, out, outSize, n);
            outSize += n;
            return true;
        }

        private boolean write(int id, long t) {
            // One byte more than may be paid for is enough to know that it can't be.
            writer.begin(terms.left() + 1);
            switch (id) {
                case P_WRITE:
                    writer.write(t, 1);
                    break;
                case P_WRITEQ:
                    writer.write(t, 0);
                    break;
                case P_WRITE_CANONICAL:
                    writer.write(t, 2);
                    break;
                case P_NL:
                    writer.put(10);
                    break;
                default:
                    if (!isCharacter(t)) {
                        return false;
                    }
                    writer.put(atoms.byteOf(Terms.at(t), 0));
                    break;
            }
            return putOut();
        }

        private boolean tab(long t) {
            if (!builtins.eval(t)) {
                return false;
            }
            if (builtins.value > terms.left()) {
                return terms.charge(UNMETERED);
            }
            writer.begin(terms.left());
            for (int i = 0; i < builtins.value; i++) {
                writer.put(' ');
            }
            return putOut();
        }

        private boolean isCharacter(long t) {
            if (Terms.isVariable(t)) {
                return terms.instantiationError();
            }
            return isOneByte(t) || terms.typeError(A_CHARACTER, t);
        }

        private boolean isOneByte(long t) {
            return Terms.isAtom(t) && atoms.size[Terms.at(t)] == 1;
        }

        private void put(int c) {
            if (size == text.length) {
                text = Arrays.copyOf(text, size * 2);
            }
            text[size++] = (byte) c;
        }

        /** Puts the TEXT of an atom or integer behind what is there; false with the ERROR of others. */
        private boolean putText(long t) {
            if (Terms.isVariable(t)) {
                return terms.instantiationError();
            }
            if (Terms.isCompound(t)) {
                return terms.typeError(A_ATOMIC, t);
            }
            if (Terms.isAtom(t)) {
                for (int i = 0; i < atoms.size[Terms.at(t)]; i++) {
                    put(atoms.byteOf(Terms.at(t), i));
                }
                return true;
            }
            writer.begin(32);
            writer.writeInteger(terms.valueOf(t));
            for (int i = 0; i < writer.size; i++) {
                put(writer.text[i]);
            }
            return true;
        }

        private boolean setText(long t) {
            size = 0;
            return putText(t);
        }

        /** The atom of a part of the text, or NONE with the ERROR that it is too long. */
        private long atomOf(int from, int n) {
            if (n > MOST_BYTES) {
                terms.resourceError(A_ATOM_TYPE);
                return NONE;
            }
            return Terms.atom(atoms.intern(text, from, n));
        }

        /** Pays for the text and unifies its atom. */
        private boolean giveAtom(long t) {
            if (!terms.charge(size)) {
                return false;
            }
            long made = atomOf(0, size);
            return made != NONE && terms.unify(t, made);
        }

        /** Whether this is an integer, or not given. */
        private boolean isIntegerOrOpen(long t) {
            return Terms.isVariable(t) || Terms.isInteger(t) || terms.typeError(A_INTEGER, t);
        }

        private boolean atomLength(long a, long length) {
            if (!setText(a) || !isIntegerOrOpen(length)) {
                return false;
            }
            if (Terms.isInteger(length) && terms.valueOf(length) < 0) {
                return terms.domainError(A_NOT_LESS, length);
            }
            return terms.unify(length, terms.integer(size));
        }

        private boolean atomConcat(Machine machine, long g) {
            long a = terms.argument(g, 1);
            long b = terms.argument(g, 2);
            long c = terms.argument(g, 3);
            if (Terms.isCompound(a)) {
                return terms.typeError(A_ATOMIC, a);
            }
            if (Terms.isCompound(b)) {
                return terms.typeError(A_ATOMIC, b);
            }
            if (!Terms.isVariable(a) && !Terms.isVariable(b)) {
                return setText(a) && putText(b) && giveAtom(c);
            }
            if (!setText(c)) {
                return false;
            }
            machine.pushChoice(K_BUILTIN, g, 0, 0, P_ATOM_CONCAT);
            return false;
        }

        private boolean nextSplit(Machine machine, int choice) {
            long g = machine.termOf(choice);
            int at = machine.numberOf(choice, K_A);
            size = 0;
            if (!putText(terms.argument(g, 3))) {
                return false;
            }
            if (at >= size) {
                machine.choiceTop = choice;
            } else {
                machine.setNumber(choice, K_A, at + 1);
            }
            return terms.charge(1 + size) && terms.unify(terms.argument(g, 1), atomOf(0, at))
                    && terms.unify(terms.argument(g, 2), atomOf(at, size - at));
        }

        private boolean subAtom(Machine machine, long g) {
            if (!setText(terms.argument(g, 1))) {
                return false;
            }
            for (int i = 2; i < 5; i++) {
                if (!isIntegerOrOpen(terms.argument(g, i))) {
                    return false;
                }
            }
            long sub = terms.argument(g, 5);
            if (!Terms.isVariable(sub) && !Terms.isAtom(sub)) {
                return terms.typeError(A_ATOM_TYPE, sub);
            }
            machine.pushChoice(K_BUILTIN, g, 0, 0, P_SUB_ATOM);
            return false;
        }

        private boolean nextSub(Machine machine, int choice) {
            long g = machine.termOf(choice);
            int before = machine.numberOf(choice, K_A);
            int n = machine.numberOf(choice, K_B);
            size = 0;
            if (!putText(terms.argument(g, 1))) {
                return false;
            }
            if (before + n < size) {
                machine.setNumber(choice, K_B, n + 1);
            } else if (before < size) {
                machine.setNumber(choice, K_A, before + 1);
                machine.setNumber(choice, K_B, 0);
            } else {
                machine.choiceTop = choice;
            }
            return terms.charge(1 + n) && terms.unify(terms.argument(g, 2), terms.integer(before))
                    && terms.unify(terms.argument(g, 3), terms.integer(n))
                    && terms.unify(terms.argument(g, 4), terms.integer(size - before - n))
                    && terms.unify(terms.argument(g, 5), atomOf(before, n));
        }

        private boolean atomList(long a, long list, boolean chars) {
            if (Terms.isVariable(a)) {
                return textOfList(list, chars) && giveAtom(a);
            }
            return setText(a) && giveList(list, chars);
        }

        /** Pays for the text and unifies the list of its codes or characters. */
        private boolean giveList(long list, boolean chars) {
            if (!terms.charge(size)) {
                return false;
            }
            long made = NIL;
            for (int i = size - 1; i >= 0; i--) {
                made = terms.struct(A_DOT, chars ? atomOf(i, 1) : terms.integer(text[i]), made);
            }
            return terms.unify(list, made);
        }

        private boolean textOfList(long list, boolean chars) {
            int n = terms.listLength(list);
            if (n < 0) {
                return n == -1 ? terms.instantiationError() : terms.typeError(A_LIST, list);
            }
            size = 0;
            long t = list;
            for (int i = 0; i < n; i++) {
                long element = terms.argument(t, 1);
                if (chars ? !isCharacter(element) : !isCode(element)) {
                    return false;
                }
                put(chars ? atoms.byteOf(Terms.at(element), 0) : (int) terms.valueOf(element));
                t = terms.argument(t, 2);
            }
            return true;
        }

        private boolean isCode(long t) {
            if (Terms.isVariable(t)) {
                return terms.instantiationError();
            }
            if (!Terms.isInteger(t)) {
                return terms.typeError(A_INTEGER, t);
            }
            long code = terms.valueOf(t);
            return code >= 1 && code <= 127 || terms.representationError(A_CHAR_CODE);
        }

        private boolean charCode(long c, long code) {
            if (Terms.isVariable(c)) {
                if (!isCode(code)) {
                    return false;
                }
                text[0] = (byte) terms.valueOf(code);
                return terms.unify(c, atomOf(0, 1));
            }
            if (!isCharacter(c) || !isIntegerOrOpen(code)) {
                return false;
            }
            return terms.unify(code, terms.integer(atoms.byteOf(Terms.at(c), 0)));
        }

        private boolean numberCodes(long number, long list) {
            if (!isIntegerOrOpen(number)) {
                return false;
            }
            if (Terms.isInteger(number)) {
                return setText(number) && giveList(list, false);
            }
            if (!textOfList(list, false) || !terms.charge(size)) {
                return false;
            }
            if (!reader.readNumber(text, size)) {
                return terms.syntaxError(Terms.atom(A_ILLEGAL));
            }
            return terms.unify(number, terms.integer(reader.numberRead()));
        }

        private boolean atomNumber(long a, long number) {
            if (Terms.isVariable(a)) {
                if (Terms.isVariable(number)) {
                    return terms.instantiationError();
                }
                return isIntegerOrOpen(number) && setText(number) && giveAtom(a);
            }
            return setText(a) && isIntegerOrOpen(number) && reader.readNumber(text, size)
                    && terms.unify(number, terms.integer(reader.numberRead()));
        }

        private boolean upcase(long a, long upper) {
            if (!setText(a)) {
                return false;
            }
            for (int i = 0; i < size; i++) {
                if (text[i] >= 'a' && text[i] <= 'z') {
                    text[i] -= 32;
                }
            }
            return giveAtom(upper);
        }

        boolean termToAtom(long g) {
            long t = terms.argument(g, 1);
            long a = terms.argument(g, 2);
            if (Terms.isVariable(a)) {
                if (Terms.isVariable(t)) {
                    return terms.instantiationError();
                }
                return writeToText(t) && giveAtom(a);
            }
            if (!setText(a) || !terms.charge(size)) {
                return false;
            }
            reader.open(text, size);
            long read = reader.readWhole();
            if (read == NONE) {
                return terms.syntaxError(terms.integer(reader.place));
            }
            return terms.unify(t, read);
        }

        /** False if the text is longer than what may be paid for. */
        private boolean writeToText(long t) {
            writer.begin(terms.left() + 1);
            writer.write(t, 0);
            size = 0;
            for (int i = 0; i < writer.size; i++) {
                put(writer.text[i]);
            }
            return true;
        }
    }
}
