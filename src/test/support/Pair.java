/** A bench and its oracle, asked the same at the same time. */
final class Pair {
    private final String name;
    private final StatuteBench bench = new StatuteBench();
    private final Oracle oracle = new Oracle();
    private final StringBuilder told = new StringBuilder();

    Pair(String name) {
        this.name = name;
    }

    private long same(String call, long got, long want) {
        Due.is(name + ": " + call + (got == want ? "" : " behind\n" + told), got, want);
        return want;
    }

    private static long of(boolean answer) {
        return answer ? 1 : 0;
    }

    private void tell(String call) {
        told.append(call).append('\n');
    }

    void feed(int a, int b, int c, int d, int e) {
        same("feed", bench.feed(a, b, c, d, e), oracle.feed(a, b, c, d, e));
    }

    void back(int n) {
        same("back(" + n + ")", bench.back(n), oracle.back(n));
    }

    /** Reads a text: its fault. */
    int read(String text) {
        tell("read <" + text + ">");
        int[] five = new int[5];
        for (int start = 0; start < text.length(); start += 20) {
            for (int i = 0; i < 20; i++) {
                int letter = start + i < text.length() ? text.charAt(start + i) : ' ';
                five[i / 4] = five[i / 4] << 8 | letter & 255;
            }
            feed(five[0], five[1], five[2], five[3], five[4]);
        }
        back((20 - text.length() % 20) % 20);
        int fault = (int) same("read()", bench.read(), oracle.read());
        same("place()", bench.place(), oracle.place());
        return fault;
    }

    void clock(int day) {
        tell("clock " + day);
        same("clock", of(bench.clock(day)), of(oracle.clock(day)));
    }

    void testify(int word, boolean so, int[] who, int from, int until, int weight) {
        tell("testify " + word + " " + so + " " + who[0] + " " + who[1] + " " + from + " " + until + " " + weight);
        same("testify", bench.testify(word, so, who[0], who[1], from, until, weight),
            oracle.testify(word, so, who[0], who[1], from, until, weight));
    }

    void number(int person, int k, int v) {
        tell("number " + person + " " + k + " " + v);
        same("number", of(bench.number(person, k, v)), of(oracle.number(person, k, v)));
    }

    long judge(int k, int e) {
        tell("judge " + k + " " + e);
        return same("judge", bench.judge(k, e), oracle.judge(k, e));
    }

    void askTexts() {
        int length = (int) same("text()", bench.text(), oracle.text());
        for (int i = -1; i <= Math.min(length, 4001); i++) {
            same("out(" + i + ")", bench.out(i), oracle.out(i));
        }
    }

    void askCode() {
        int rules = oracle.count(4);
        for (int r = -1; r <= rules; r++) {
            for (int what = -1; what <= 6; what++) {
                same("rule(" + r + ", " + what + ")", bench.rule(r, what), oracle.rule(r, what));
            }
            for (int s = -1; s <= rules; s++) {
                same("above(" + r + ", " + s + ")", bench.above(r, s), oracle.above(r, s));
            }
        }
        for (int l = -1; l <= oracle.count(3); l++) {
            for (int what = -1; what <= 5; what++) {
                same("law(" + l + ", " + what + ")", bench.law(l, what), oracle.law(l, what));
            }
        }
        for (int what = -1; what <= 13; what++) {
            same("count(" + what + ")", bench.count(what), oracle.count(what));
        }
    }

    void askJudgment() {
        int persons = oracle.count(0);
        for (int word = -1; word <= oracle.count(1); word++) {
            for (int a = -1; a <= persons; a++) {
                for (int b = -1; b <= persons; b++) {
                    askLiteral(word, true, a, b);
                    askLiteral(word, false, a, b);
                }
            }
        }
        for (int s = -1; s <= oracle.count(2); s++) {
            for (int person = -1; person <= persons; person++) {
                for (int what = -1; what <= 4; what++) {
                    same("sum(" + s + ", " + person + ", " + what + ")",
                        bench.sum(s, person, what), oracle.sum(s, person, what));
                }
            }
        }
    }

    private void askLiteral(int word, boolean so, int a, int b) {
        String literal = word + ", " + so + ", " + a + ", " + b;
        same("status(" + literal + ")", bench.status(word, so, a, b), oracle.status(word, so, a, b));
        for (int what = -1; what <= 5; what++) {
            same("why(" + literal + ", " + what + ")",
                bench.why(word, so, a, b, what), oracle.why(word, so, a, b, what));
        }
    }

    int count(int what) {
        return oracle.count(what);
    }
}
