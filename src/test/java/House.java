import java.nio.charset.StandardCharsets;

/** What the tests share: texts for a LogicHouse, and a count of the answers that are not due. */
final class House {
    static final int MOST_CALLS = 512;
    final Counted x = new Counted();
    private static int wrong = 0;
    private static int checks = 0;

    /** A LogicHouse that counts its calls: what it answers behind the 512th is free, so no test may ask it. */
    static final class Counted {
        private LogicHouse house = new LogicHouse();
        int calls;

        private LogicHouse called() {
            calls++;
            if (calls == MOST_CALLS + 1) {
                wrong++;
                System.out.println("an object is used for more than " + MOST_CALLS + " calls");
                new Throwable().printStackTrace(System.out);
            }
            return house;
        }

        int feed(int a, int b, int c, int d, int e) {
            return called().feed(a, b, c, d, e);
        }

        int end(int n) {
            return called().end(n);
        }

        int consult() {
            return called().consult();
        }

        int query() {
            return called().query();
        }

        int next() {
            return called().next();
        }

        int value(int i) {
            return called().value(i);
        }

        int variable(int i) {
            return called().variable(i);
        }

        int ball() {
            return called().ball();
        }

        int term(int how) {
            return called().term(how);
        }

        int listing() {
            return called().listing();
        }

        int limit(int n) {
            return called().limit(n);
        }

        long word(int i) {
            return called().word(i);
        }

        long out(int i) {
            return called().out(i);
        }

        int clear() {
            return called().clear();
        }

        void reset() {
            called().reset();
        }

        int count(int what) {
            return called().count(what);
        }
    }

    static void same(String what, Object got, Object want) {
        checks++;
        if (!want.equals(got)) {
            wrong++;
            System.out.println(what + "\n    answered " + got + "\n    due is   " + want);
        }
    }

    static void finish() {
        System.out.println(checks + " checks, " + wrong + " wrong");
        if (wrong != 0) {
            System.exit(1);
        }
    }

    /** THE TAPE, that is empty, is this text. */
    House tape(String text) {
        byte[] bytes = text.getBytes(StandardCharsets.ISO_8859_1);
        int[] five = new int[5];
        for (int i = 0; i < bytes.length; i += 20) {
            for (int k = 0; k < 5; k++) {
                five[k] = 0;
                for (int j = 0; j < 4; j++) {
                    int at = i + 4 * k + j;
                    five[k] = five[k] << 8 | (at < bytes.length ? bytes[at] & 255 : 0);
                }
            }
            x.feed(five[0], five[1], five[2], five[3], five[4]);
        }
        x.end(bytes.length);
        return this;
    }

    int consult(String text) {
        return tape(text).x.consult();
    }

    int query(String text) {
        return tape(text).x.query();
    }

    String result() {
        return resultOf(x.count(1));
    }

    private String resultOf(int n) {
        StringBuilder s = new StringBuilder();
        for (int i = 0; i < n; i += 8) {
            add(s, x.word(i), n - i);
        }
        return s.toString();
    }

    String out() {
        int n = x.count(2);
        StringBuilder s = new StringBuilder();
        for (int i = 0; i < n; i += 8) {
            add(s, x.out(i), n - i);
        }
        return s.toString();
    }

    private static void add(StringBuilder s, long bytes, int n) {
        for (int k = 0; k < 8 && k < n; k++) {
            s.append((char) (bytes >> (56 - 8 * k) & 255));
        }
    }

    String ball() {
        return resultOf(x.ball());
    }

    String value(int i) {
        return resultOf(x.value(i));
    }

    /** The values of the latest answer as N = V, N = V. */
    String values(int n) {
        StringBuilder s = new StringBuilder();
        for (int i = 0; i < n; i++) {
            s.append(i > 0 ? ", " : "").append(resultOf(x.variable(i))).append(" = ");
            s.append(resultOf(x.value(i)));
        }
        return n == 0 ? "yes" : s.toString();
    }

    /** All answers of a query, at most 20, each with ; behind it, and how it ended: no, a ball or SPENT. */
    String all(String text) {
        int n = query(text);
        if (n < 0) {
            return "place " + (-1 - n);
        }
        StringBuilder s = new StringBuilder();
        for (int i = 0; i < 20; i++) {
            int answer = x.next();
            if (answer == 1) {
                s.append(values(n)).append("; ");
            } else {
                s.append(answer == 0 ? "no" : answer == 2 ? "ball " + ball() : "spent");
                return s.toString();
            }
        }
        return s.append("..").toString();
    }

    /** The first answer of a query. */
    String first(String text) {
        int n = query(text);
        if (n < 0) {
            return "place " + (-1 - n);
        }
        int answer = x.next();
        return answer == 1 ? values(n) : answer == 0 ? "no" : answer == 2 ? "ball " + ball() : "spent";
    }

    /** What a query writes up to its first answer. */
    String written(String text) {
        x.clear();
        first(text);
        return out();
    }

    /** WORK of a query up to its first answer, or end. */
    int work(String text) {
        query(text);
        x.next();
        return x.count(5);
    }

    String term(String text, int how) {
        int n = tape(text).x.term(how);
        return n < 0 ? "place " + (-1 - n) : resultOf(n);
    }

    String listing(String text) {
        int n = tape(text).x.listing();
        return n < 0 ? String.valueOf(n) : n + ": " + result();
    }

    void isAll(String text, String want) {
        same(text, all(text), want);
    }

    void isFirst(String text, String want) {
        same(text, first(text), want);
    }

    /** That a query has an answer, however long its values are. */
    void isTrue(String text) {
        query(text);
        same(text, x.next(), 1);
    }

    void isWritten(String text, String want) {
        same(text, written(text), want);
    }

    void isWork(String text, int want) {
        same("WORK of " + text, work(text), want);
    }

    void isTerm(String text, int how, String want) {
        same("term(" + how + ") of " + text, term(text, how), want);
    }
}
