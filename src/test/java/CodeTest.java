/** Promises 15 to 18: rule, law, above and count. */
public final class CodeTest {
    private static final int[] STRANGE = {Integer.MIN_VALUE, -2, -1, 1000, Integer.MAX_VALUE};

    public static void main(String[] args) {
        rules();
        laws();
        above();
        counts();
        Due.end();
    }

    private static void rules() {
        StatuteBench bench = Due.bench("person p; word w 1; word v 0; sum s; sum z; law l rank 0 from 0; rule a: => v; end "
            + "law m rank 0 from 0; bar b: w(X), not w(Y), if X.0 < Z.0 => not w(p); "
            + "take t: same X p, v => z(X) * 1/2 + X.0; rule c: v, v, v, v, v, v => not v; end");
        int[][] due = {{0, 0, 0, 0, 1, 1}, {1, 1, 3, 3, 0, 0}, {1, 2, 2, 1, 1, 1}, {1, 0, 6, 0, 1, 0}};
        for (int r = 0; r < due.length; r++) {
            for (int what = 0; what < due[r].length; what++) {
                Due.is("rule(" + r + ", " + what + ")", bench.rule(r, what), due[r][what]);
            }
            Due.is("rule(" + r + ", 6)", bench.rule(r, 6), -1);
        }
        Due.is("rule(4, 0)", bench.rule(4, 0), -1);
        for (int strange : STRANGE) {
            Due.is("rule(" + strange + ", 0)", bench.rule(strange, 0), -1);
            Due.is("rule(0, " + strange + ")", bench.rule(0, strange), -1);
        }
    }

    private static void laws() {
        StatuteBench bench = Due.bench("word v 0; law l rank 9 from 3 until 7; rule a: => v; bar b: => v; end");
        bench.clock(12);
        Due.read(bench, "law m rank 0 from 0; end");
        int[][] due = {{9, 0, 3, 7, 2}, {0, 12, 0, -1, 0}};
        for (int l = 0; l < due.length; l++) {
            for (int what = 0; what < due[l].length; what++) {
                Due.is("law(" + l + ", " + what + ")", bench.law(l, what), due[l][what]);
            }
            Due.is("law(" + l + ", 5)", bench.law(l, 5), -1);
        }
        Due.is("law(2, 0)", bench.law(2, 0), -1);
        for (int strange : STRANGE) {
            Due.is("law(" + strange + ", 0)", bench.law(strange, 0), -1);
            Due.is("law(0, " + strange + ")", bench.law(0, strange), -1);
        }
    }

    private static void above() {
        StatuteBench bench = Due.bench("person p; word w 0; sum s; law one rank 1 from 5; rule a: => w; rule b: => w; end "
            + "law two rank 2 from 0; bar c: => not w; take t: => s(p) + 1; end law three rank 1 from 6; rule d: => w; end");
        bench.clock(3);
        Due.read(bench, "law four rank 1 from 0; rule e: => w; end over b a; over a d; over d a; over a c;");
        // Rules a, b of one; c, t of two; d of three; e of four.
        int[][] due = {
            {0, 0, 1, -1, 1, 0},
            {1, 0, 0, -1, 0, 0},
            {0, 1, 0, -1, 1, 1},
            {-1, -1, -1, -1, -1, -1},
            {0, 1, 0, -1, 0, 0},
            {1, 1, 0, -1, 1, 0},
        };
        for (int r = 0; r < due.length; r++) {
            for (int s = 0; s < due.length; s++) {
                Due.is("above(" + r + ", " + s + ")", bench.above(r, s), due[r][s]);
            }
        }
        Due.is("above(6, 0)", bench.above(6, 0), -1);
        Due.is("above(0, 6)", bench.above(0, 6), -1);
        for (int strange : STRANGE) {
            Due.is("above(" + strange + ", 0)", bench.above(strange, 0), -1);
            Due.is("above(0, " + strange + ")", bench.above(0, strange), -1);
        }
    }

    private static void counts() {
        StatuteBench bench = Due.bench("person p; person q; word w 1; word v 0; word u 2; sum s; law l rank 0 from 0; end "
            + "law m rank 0 from 0; rule a: w(X) => v; bar b: => not v; take t: => s(X) + 1; rule c: u(X, Y) => u(Y, X); end "
            + "over a b; over b a;");
        bench.clock(8);
        bench.testify(0, true, 1, 0, 0, 5, 4);
        bench.testify(0, true, 1, 0, 0, 5, 4);
        Due.feed(bench, "person z");
        int[] due = {2, 3, 1, 2, 4, 2, 2, 8, 8, 0, 0, 0, 0};
        for (int what = 0; what < due.length; what++) {
            Due.is("count(" + what + ")", bench.count(what), due[what]);
        }
        Due.is("judge", bench.judge(8, 0), 2);
        int[] judged = {2, 3, 1, 2, 4, 2, 2, 8, 8, 2, 8, 4, 4};
        for (int what = 0; what < judged.length; what++) {
            Due.is("count(" + what + ") as judged", bench.count(what), judged[what]);
        }
        Due.is("count(13)", bench.count(13), -1);
        for (int strange : STRANGE) {
            Due.is("count(" + strange + ")", bench.count(strange), -1);
        }
    }
}
