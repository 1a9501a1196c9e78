/** A bench and its oracle, asked the same at the same time. */
final class Pair {
    private final String name;
    private final StatuteBench bench = new StatuteBench();
    private final Oracle oracle = new Oracle();
    private final StringBuilder told = new StringBuilder();

    Pair(String name) {
        this.name = name;
    }

    private long same(String call, long got, long want) {
        Due.is(name + ": " + call + (got == want ? "" : " behind\n" + told), got, want);
        return want;
    }

    private static long of(boolean answer) {
        return answer ? 1 : 0;
    }

    private void tell(String call) {
        told.append(call).append('\n');
    }

    void feed(int a, int b, int c, int d, int e) {
        same("feed", bench.feed(a, b, c, d, e), oracle.feed(a, b, c, d, e));
    }

    void back(int n) {
        same("back(" + n + ")", bench.back(n), oracle.back(n));
    }

    /** Reads a text: its fault. */
    int read(String text) {
        tell("read <" + text + ">");
        int[] five = new int[5];
        for (int start = 0; start < text.length(); start += 20) {
            for (int i = 0; i < 20; i++) {
                int letter = start + i < text.length() ? text.charAt(start + i) : ' ';
                five[i / 4] = five[i / 4] << 8 | letter & 255;
            }
            feed(five[0], five[1], five[2], five[3], five[4]);
        }
        back((20 - text.length() % 20) % 20);
        int fault = (int) same("read()", bench.read(), oracle.read());
        same("place()", bench.place(), oracle.place());
        return fault;
    }

    void clock(int day) {
        tell("clock " + day);
        same("clock", of(bench.clock(day)), of(oracle.clock(day)));
    }

    void testify(int word, boolean so, int[] who, int from, int until, int weight) {
        tell("testify " + word + " " + so + " " + who[0] + " " + who[1] + " " + from + " " + until + " " + weight);
        same("testify", bench.testify(word, so, who[0], who[1], from, until, weight),
            oracle.testify(word, so, who[0], who[1], from, until, weight));
    }

    void number(int person, int k, int v) {
        tell("number " + person + " " + k + " " + v);
        same("number", of(bench.number(person, k, v)), of(oracle.number(person, k, v)));
    }

    long judge(int k, int e) {
        tell("judge " + k + " " + e);
        return same("judge", bench.judge(k, e), oracle.judge(k, e));
    }

    void askTexts() {
        int length = (int) same("text()", bench.text(), oracle.text());
        for (int i = -1; i <= Math.min(length, 4001); i++) {
            same("out(" + i + ")", bench.out(i), oracle.out(i));
        }
    }

    void askCode() {
        int rules = oracle.count(4);
        for (int r = -1; r <= rules; r++) {
            for (int what = -1; what <= 6; what++) {
                same("rule(" + r + ", " + what + ")", bench.rule(r, what), oracle.rule(r, what));
            }
            for (int s = -1; s <= rules; s++) {
                same("above(" + r + ", " + s + ")", bench.above(r, s), oracle.above(r, s));
            }
        }
        for (int l = -1; l <= oracle.count(3); l++) {
            for (int what = -1; what <= 5; what++) {
                same("law(" + l + ", " + what + ")", bench.law(l, what), oracle.law(l, what));
            }
        }
        for (int what = -1; what <= 13; what++) {
            same("count(" + what + ")", bench.count(what), oracle.count(what));
        }
    }

    void askJudgment() {
        int persons = oracle.count(0);
        for (int word = -1; word <= oracle.count(1); word++) {
            for (int a = -1; a <= persons; a++) {
                for (int b = -1; b <= persons; b++) {
                    askLiteral(word, true, a, b);
                    askLiteral(word, false, a, b);
                }
            }
        }
        for (int s = -1; s <= oracle.count(2); s++) {
            for (int person = -1; person <= persons; person++) {
                for (int what = -1; what <= 4; what++) {
                    same("sum(" + s + ", " + person + ", " + what + ")",
                        bench.sum(s, person, what), oracle.sum(s, person, what));
                }
            }
        }
    }

    private void askLiteral(int word, boolean so, int a, int b) {
        String literal = word + ", " + so + ", " + a + ", " + b;
        same("status(" + literal + ")", bench.status(word, so, a, b), oracle.status(word, so, a, b));
        for (int what = -1; what <= 5; what++) {
            same("why(" + literal + ", " + what + ")",
                bench.why(word, so, a, b, what), oracle.why(word, so, a, b, what));
        }
    }

    /** One call with small or strange arguments. */
    void strangeCall(java.util.Random random) {
        int[] x = new int[7];
        for (int i = 0; i < x.length; i++) {
            int[] strange = {Integer.MIN_VALUE, Integer.MAX_VALUE, -1, 999999, 1000000, -999999, 4000, random.nextInt()};
            x[i] = random.nextInt(4) == 0 ? strange[random.nextInt(strange.length)] : random.nextInt(8) - 1;
        }
        boolean so = random.nextBoolean();
        int sort = random.nextInt(15);
        tell("strange " + sort + " " + so + " " + java.util.Arrays.toString(x));
        switch (sort) {
            case 0 -> feed(x[0], x[1], x[2], x[3], x[4]);
            case 1 -> back(x[0]);
            case 2 -> same("read", bench.read(), oracle.read());
            case 3 -> same("place", bench.place(), oracle.place());
            case 4 -> clock(random.nextInt(20) == 0 ? x[0] : oracle.count(7) + Math.min(x[0], 3));
            case 5 -> testify(x[0], so, new int[] {x[1], x[2]}, x[3], x[4], x[5]);
            case 6 -> number(x[0], x[1], x[2]);
            case 7 -> judge(x[0], x[1]);
            case 8 -> askLiteral(x[0], so, x[1], x[2]);
            case 9 -> same("why", bench.why(x[0], so, x[1], x[2], x[3]), oracle.why(x[0], so, x[1], x[2], x[3]));
            case 10 -> same("sum", bench.sum(x[0], x[1], x[2]), oracle.sum(x[0], x[1], x[2]));
            case 11 -> same("text", bench.text(), oracle.text());
            case 12 -> same("out", bench.out(x[0]), oracle.out(x[0]));
            case 13 -> same("above", bench.above(x[0], x[1]), oracle.above(x[0], x[1]));
            default -> {
                same("rule", bench.rule(x[0], x[1]), oracle.rule(x[0], x[1]));
                same("law", bench.law(x[0], x[1]), oracle.law(x[0], x[1]));
                same("count", bench.count(x[0]), oracle.count(x[0]));
            }
        }
    }

    int count(int what) {
        return oracle.count(what);
    }
}
