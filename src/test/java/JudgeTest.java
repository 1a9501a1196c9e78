/** Promises 9, 10 and 11: judge, status and why. */
public final class JudgeTest {
    private static final int PROVED = 1;
    private static final int REFUTED = 0;
    private static final int OPEN = 2;

    public static void main(String[] args) {
        days();
        facts();
        force();
        barsAndRules();
        ranks();
        oversDecide();
        teams();
        circles();
        conditions();
        breaks();
        deepAndManyFormulas();
        reasons();
        reasonsOfRefuted();
        whatIsToldLater();
        literalsThatAreNone();
        chains();
        Due.end();
    }

    private static void days() {
        StatuteBench bench = Due.bench("word w 0; law l rank 0 from 0; rule r: => w; end");
        int[][] wrong = {{-1, 0}, {0, -1}, {1000000, 0}, {0, 1000000}, {Integer.MIN_VALUE, 0}, {0, Integer.MAX_VALUE}};
        for (int[] d : wrong) {
            Due.is("judge(" + d[0] + ", " + d[1] + ")", bench.judge(d[0], d[1]), -1);
        }
        Due.is("nothing is judged", bench.status(0, true, 0, 0), -1);
        Due.is("nor why", bench.why(0, true, 0, 0, 0), -1);
        Due.is("judge(0, 999999)", bench.judge(0, 999999), 1);
        Due.is("judge(999999, 0)", bench.judge(999999, 0), 1);
        Due.is("a wrong day", bench.judge(0, -1), -1);
        Due.is("what was judged stays", bench.status(0, true, 0, 0), PROVED);
        Due.is("the opposite", bench.status(0, false, 0, 0), REFUTED);
    }

    private static void facts() {
        int[][] due = {{2, 0, 0}, {3, 0, 1}, {3, 2, 1}, {3, 3, 0}, {9, 9, 0}, {9, 8, 1}, {2, 1, 0}, {2, 3, -1}};
        for (int[] d : due) {
            StatuteBench bench = Due.bench("word w 0;");
            String weights = d[0] + " against " + d[1];
            bench.testify(0, true, 0, 0, 0, 1, d[0]);
            if (d[1] > 0) {
                bench.testify(0, false, 0, 0, 0, 1, d[1]);
            }
            Due.is(weights, bench.judge(0, 0), d[2] == 0 ? 0 : 1);
            Due.is(weights + ", so", bench.status(0, true, 0, 0), d[2] == 1 ? PROVED : REFUTED);
            Due.is(weights + ", not", bench.status(0, false, 0, 0), d[2] == -1 ? PROVED : REFUTED);
            Due.is(weights + ", why", bench.why(0, true, 0, 0, 0), d[2] == 0 ? 2 : 0);
            Due.is(weights + ", why not", bench.why(0, false, 0, 0, 0), d[2] == 0 ? 2 : 0);
        }
        StatuteBench together = Due.bench("person a; person b; word w 1;");
        together.testify(0, true, 0, 0, 0, 1, 1);
        together.testify(0, true, 0, 0, 0, 1, 2);
        together.testify(0, true, 1, 0, 0, 1, 2);
        Due.is("weights together", together.judge(0, 0), 1);
        Due.is("of a", together.status(0, true, 0, 0), PROVED);
        Due.is("of b", together.status(0, true, 1, 0), REFUTED);
        StatuteBench fact = Due.bench("word w 0; law l rank 9 from 0; rule r: => not w; bar b: => not w; end");
        fact.testify(0, true, 0, 0, 0, 1, 3);
        Due.is("a fact against rules", fact.judge(0, 0), 1);
        Due.is("is proved", fact.status(0, true, 0, 0), PROVED);
        Due.is("by testimonies", fact.why(0, true, 0, 0, 0), 0);
        Due.is("has no rule", fact.why(0, true, 0, 0, 1), -1);
        Due.is("its opposite", fact.why(0, false, 0, 0, 0), 0);
        Due.is("the rule against it is applicable", fact.count(12), 2);
    }

    private static void force() {
        StatuteBench bench = new StatuteBench();
        bench.clock(3);
        Due.read(bench, "word w 0; word v 0; law l rank 0 from 5 until 7; rule r: => w; end "
            + "law m rank 0 from 2; rule s: => v; end");
        int[][] due = {{2, 5, 0, 0}, {3, 4, 0, 1}, {3, 5, 1, 1}, {3, 6, 1, 1}, {3, 7, 0, 1}, {3, 1, 0, 0},
            {3, 999999, 0, 1}, {999999, 6, 1, 1}};
        for (int[] d : due) {
            String name = "judge(" + d[0] + ", " + d[1] + ")";
            Due.is(name, bench.judge(d[0], d[1]), d[2] + d[3]);
            Due.is(name + " of l", bench.status(0, true, 0, 0), d[2]);
            Due.is(name + " of m", bench.status(1, true, 0, 0), d[3]);
        }
    }

    private static void barsAndRules() {
        StatuteBench bench = Due.bench("word w 0; word v 0; law l rank 1 from 0; rule r: => w; rule q: => v; end "
            + "law m rank 1 from 0; bar b: => not w; end law n rank 2 from 0; bar c: => not v; end");
        Due.is("bars stop, and prove nothing", bench.judge(0, 0), 0);
        Due.is("w", bench.status(0, true, 0, 0), REFUTED);
        Due.is("not w", bench.status(0, false, 0, 0), REFUTED);
        Due.is("v", bench.status(1, true, 0, 0), REFUTED);
        Due.is("why v is refuted", bench.why(1, true, 0, 0, 1), 3);
        Due.is("why not w is refuted: the rule for w", bench.why(0, false, 0, 0, 1), 0);
        StatuteBench below = Due.bench("word w 0; law l rank 1 from 0; rule r: => w; end "
            + "law m rank 0 from 0; bar b: => not w; rule s: => not w; end");
        Due.is("what is below stops nothing", below.judge(0, 0), 1);
        Due.is("w is proved", below.status(0, true, 0, 0), PROVED);
        Due.is("not w is refuted", below.status(0, false, 0, 0), REFUTED);
        Due.is("by r", below.why(0, false, 0, 0, 1), 0);
        StatuteBench equal = Due.bench("word w 0; law l rank 1 from 0; rule r: => w; rule s: => not w; end");
        Due.is("two alike", equal.judge(0, 0), 0);
        Due.is("both are refuted", equal.count(10), 2);
        Due.is("w by s", equal.why(0, true, 0, 0, 1), 1);
        Due.is("not w by r", equal.why(0, false, 0, 0, 1), 0);
        StatuteBench bar = Due.bench("word w 0; law l rank 9 from 0; bar b: => w; end");
        Due.is("a bar alone proves nothing", bar.judge(0, 0), 0);
        Due.is("w without a rule", bar.status(0, true, 0, 0), REFUTED);
        Due.is("why: nothing", bar.why(0, true, 0, 0, 0), 2);
        Due.is("not w: against it stands the bar", bar.why(0, false, 0, 0, 1), 0);
    }

    private static void ranks() {
        StatuteBench bench = new StatuteBench();
        Due.read(bench, "word w 0; law a rank 1 from 3; rule r: => w; end law b rank 1 from 3; rule s: => not w; end");
        Due.is("alike in all", bench.judge(9, 5), 0);
        bench = Due.bench("word w 0; law a rank 1 from 3; rule r: => w; end law b rank 1 from 4; rule s: => not w; end");
        Due.is("a later force", bench.judge(9, 5), 1);
        Due.is("goes ahead", bench.status(0, false, 0, 0), PROVED);
        Due.is("while it has not begun", bench.judge(9, 3), 1);
        Due.is("the other goes", bench.status(0, true, 0, 0), PROVED);
        bench = Due.bench("word w 0; law a rank 1 from 9; rule r: => w; end");
        bench.clock(2);
        Due.read(bench, "law b rank 1 from 0; rule s: => not w; end");
        Due.is("made later", bench.judge(2, 9), 1);
        Due.is("goes ahead of a later force", bench.status(0, false, 0, 0), PROVED);
        Due.is("known ahead of it", bench.judge(1, 9), 1);
        Due.is("it was not made", bench.status(0, true, 0, 0), PROVED);
        bench.clock(4);
        Due.read(bench, "law c rank 0 from 9; rule t: => w; end");
        bench.judge(4, 9);
        Due.is("a lower rank made later", bench.status(0, false, 0, 0), PROVED);
    }

    private static void oversDecide() {
        String laws = "word w 0; law a rank 9 from 0; rule r: => w; end law b rank 1 from 0; rule s: => not w; end ";
        StatuteBench bench = Due.bench(laws);
        bench.judge(0, 0);
        Due.is("the rank", bench.status(0, true, 0, 0), PROVED);
        bench.clock(50);
        Due.read(bench, "over s r;");
        bench.judge(0, 0);
        Due.is("an over of any day", bench.status(0, false, 0, 0), PROVED);
        Due.read(bench, "over r s;");
        bench.judge(0, 0);
        Due.is("the first one decides", bench.status(0, false, 0, 0), PROVED);
        StatuteBench same = Due.bench("word w 0; law a rank 9 from 0; rule r: => w; rule s: => not w; end over r s;");
        Due.is("of the same law", same.judge(0, 0), 1);
        Due.is("by over", same.status(0, true, 0, 0), PROVED);
    }

    /** Each one against is answered by another one for it. */
    private static void teams() {
        StatuteBench bench = Due.bench("word w 0; law a rank 1 from 0; rule p: => w; rule q: => w; "
            + "rule x: => not w; bar y: => not w; end over p x; over q y;");
        Due.is("two for it, two against", bench.judge(0, 0), 1);
        Due.is("is proved", bench.status(0, true, 0, 0), PROVED);
        Due.is("by the first", bench.why(0, true, 0, 0, 1), 0);
        Due.read(bench, "law b rank 2 from 0; bar z: => not w; end");
        Due.is("a third against", bench.judge(0, 0), 0);
        Due.is("is refuted", bench.status(0, true, 0, 0), REFUTED);
        Due.is("by the third", bench.why(0, true, 0, 0, 1), 4);
        StatuteBench bars = Due.bench("word w 0; law a rank 1 from 0; rule p: => w; bar q: => w; bar x: => not w; end "
            + "over q x;");
        Due.is("a bar answers nothing", bars.judge(0, 0), 0);
        // Overs in a ring prove a literal and its opposite.
        StatuteBench ring = Due.bench("word w 0; law a rank 1 from 0; rule p: => w; rule q: => w; "
            + "rule x: => not w; rule y: => not w; end over p x; over x q; over q y; over y p;");
        Due.is("both are proved", ring.judge(0, 0), 2);
        Due.is("so", ring.status(0, true, 0, 0), PROVED);
        Due.is("not", ring.status(0, false, 0, 0), PROVED);
    }

    private static void circles() {
        StatuteBench bench = Due.bench("word p 0; word q 0; word z 0; law a rank 1 from 0; "
            + "rule r: p => q; rule s: q => p; rule t: => z; bar b: q => not z; end");
        Due.is("a ring proves nothing", bench.judge(0, 0), 0);
        Due.is("p is open", bench.status(0, true, 0, 0), OPEN);
        Due.is("q is open", bench.status(1, true, 0, 0), OPEN);
        Due.is("why: open", bench.why(0, true, 0, 0, 0), 3);
        Due.is("no rule of an open one", bench.why(0, true, 0, 0, 1), -1);
        Due.is("not p has no rule", bench.status(0, false, 0, 0), REFUTED);
        Due.is("z waits for the bar", bench.status(2, true, 0, 0), OPEN);
        Due.is("open ones", bench.count(11), 3);
        Due.is("refuted ones", bench.count(10), 3);
        Due.is("applicable ones", bench.count(12), 1);
        bench.testify(1, false, 0, 0, 0, 1, 3);
        Due.is("with a fact", bench.judge(0, 0), 2);
        Due.is("p is refuted", bench.status(0, true, 0, 0), REFUTED);
        Due.is("z is proved", bench.status(2, true, 0, 0), PROVED);
        StatuteBench itself = Due.bench("word w 0; law a rank 1 from 0; rule r: not w => w; end");
        itself.judge(0, 0);
        Due.is("not w has no rule", itself.status(0, false, 0, 0), REFUTED);
        Due.is("so r is discarded", itself.status(0, true, 0, 0), REFUTED);
        StatuteBench higher = Due.bench("word w 0; word v 0; law a rank 1 from 0; rule u: v => v; rule r: => w; "
            + "rule s: v => not w; end over s r;");
        higher.judge(0, 0);
        Due.is("an open one against it", higher.status(0, true, 0, 0), OPEN);
        Due.is("an open one for it, which is above", higher.status(0, false, 0, 0), OPEN);
    }

    private static void conditions() {
        StatuteBench bench = Due.bench("person a; person b; person c; word near 2; word far 2; word self 1; word rich 1; "
            + "law l rank 0 from 0; rule r: near(X, Y), near(Y, Z), other X Z => far(X, Z); "
            + "rule s: same X Y, near(X, Y) => self(X); rule t: if 10 <= X.0, not self(X) => rich(X); "
            + "rule u: => not self(b); end");
        bench.testify(0, true, 0, 1, 0, 9, 3);
        bench.testify(0, true, 1, 2, 0, 9, 3);
        bench.testify(0, true, 1, 0, 0, 9, 3);
        bench.testify(0, true, 2, 2, 0, 9, 3);
        bench.number(1, 0, 10);
        bench.number(2, 0, 11);
        bench.judge(0, 0);
        Due.is("far(a, c)", bench.status(1, true, 0, 2), PROVED);
        Due.is("far(a, a)", bench.status(1, true, 0, 0), REFUTED);
        Due.is("far(b, c) by c, c", bench.status(1, true, 1, 2), PROVED);
        Due.is("far(c, a)", bench.status(1, true, 2, 0), REFUTED);
        Due.is("self(c)", bench.status(2, true, 2, 0), PROVED);
        Due.is("self(a)", bench.status(2, true, 0, 0), REFUTED);
        Due.is("not self(b)", bench.status(2, false, 1, 0), PROVED);
        Due.is("rich(b)", bench.status(3, true, 1, 0), PROVED);
        Due.is("rich(c)", bench.status(3, true, 2, 0), REFUTED);
        Due.is("rich(a)", bench.status(3, true, 0, 0), REFUTED);
        comparisons();
    }

    private static void comparisons() {
        String[] signs = {"==", "!=", "<", "<="};
        String[][] pairs = {{"1/2", "2/4"}, {"1/3", "1/2"}, {"-1", "-2"}, {"0/5", "-0"}, {"2*3-1", "5"},
            {"2-3-4", "-5"}, {"1+2*3", "7"}, {"(1+2)*3", "9"}, {"-2*3", "(-2)*3"}, {"1/2*2/3", "1/3"}, {"-(2-3)", "1"}};
        int[][] due = {{1, 0, 0, 1}, {0, 1, 1, 1}, {0, 1, 0, 0}, {1, 0, 0, 1}, {1, 0, 0, 1},
            {1, 0, 0, 1}, {1, 0, 0, 1}, {1, 0, 0, 1}, {1, 0, 0, 1}, {1, 0, 0, 1}, {1, 0, 0, 1}};
        for (int i = 0; i < pairs.length; i++) {
            for (int j = 0; j < signs.length; j++) {
                String condition = "if " + pairs[i][0] + " " + signs[j] + " " + pairs[i][1];
                StatuteBench bench = Due.bench("word w 0; law l rank 0 from 0; rule r: " + condition + " => w; end");
                Due.is(condition, bench.judge(0, 0), due[i][j]);
            }
        }
    }

    private static void holds(String condition, int due) {
        StatuteBench bench = Due.bench("person p; word w 0; law l rank 0 from 0; rule r: if " + condition + " => w; end");
        bench.number(0, 0, 999999);
        bench.number(0, 1, -999999);
        Due.is("if " + condition, bench.judge(0, 0), due);
    }

    private static void breaks() {
        holds("100000 * 10000 == 1000 * 1000 * 1000", 1);
        holds("100000 * 10000 + 1 != 0", 0);
        holds("100000 * 10000 + 1 - 1 == 100000 * 10000", 0);
        holds("-100000 * 10000 < 0", 1);
        holds("-100000 * 10000 - 1 < 0", 0);
        holds("1/100000 * 1/10000 != 0", 1);
        holds("1/100000 * 1/10000 * 1/2 != 0", 0);
        holds("1/100000 * 1/10000 * 2 == 1/100000 * 1/5000", 1);
        holds("1/31623 + 1/31624 != 0", 0);
        holds("1/999999 + 1/1000 != 0", 1);
        holds("0 * (100000 * 100000) == 0", 0);
        holds("999999/1 * 1000/999 < 100000 * 100000", 0);
        holds("p.0 * p.1 < 0", 0);
        holds("p.0 * 1000 + 1000 == 100000 * 10000", 1);
        holds("p.0 * 1000 + 1001 != 0", 0);
        holds("p.0 + p.1 == 0", 1);
        holds("500000 * 2000/3 * 3/1 != 0", 1);
    }

    private static void deepAndManyFormulas() {
        // Eight brackets, and on each level a sum and a product that wait.
        holds(Due.repeat("1 + 2 * (", 8) + "1 + 2 * 3/2" + Due.repeat(")", 8) + " == 1279", 1);
        holds(Due.repeat("1 - 1 * (", 8) + "-1 * 1 * 1" + Due.repeat(")", 8) + " == -1", 1);
        StringBuilder text = new StringBuilder("person p; word w 0; sum s; law l rank 0 from 0; ");
        for (int i = 0; i < 15; i++) {
            text.append("rule r").append(i).append(": if 1+1==2, if 2*3-1==5, if 1<").append(i + 2).append(" => w; ");
            text.append("take t").append(i).append(": if p.0==").append(i * i).append("/").append(i + 1);
            text.append("=>s(p)+1/").append(i + 1).append("; ");
        }
        StatuteBench bench = Due.bench(text + "end");
        bench.judge(0, 0);
        Due.is("all hold, and one take of fifteen", bench.count(12), 16);
        Due.is("that one", bench.sum(0, 0, 0), 1);
        Due.fault(bench, "law m rank 0 from 0; take z: if 7 == 7, if 0 == p.3 => s(p) + 2 * 3; end", 2, 26);
        bench.number(0, 0, 49);
        bench.judge(0, 0);
        Due.is("none", bench.sum(0, 0, 2), 0);
        StatuteBench one = Due.bench("person p; sum s; law m rank 0 from 0; take z: if 7 == 7 => s(p) + 2 * 3; end");
        Due.fault(one, "law k rank 0 from 0; take y: if 7 == 7 => s(p) + 2 * 4; take y: => s(p) + 1; end", 3, 61);
        Due.fault(one, "law k rank 0 from 0; take y: if 0 == p.0 => s(p) + 2 * 5; end", 0, -1);
        one.judge(0, 0);
        Due.is("formulas behind a text with a fault", one.sum(0, 0, 0), 16);
    }

    private static void reasons() {
        StatuteBench bench = Due.bench("person a; person b; person c; word w 1; word v 0; word t 2; law l rank 0 from 0; "
            + "rule n: w(X) => v; rule q: t(Y, X), t(X, Z) => v; end");
        bench.testify(2, true, 1, 2, 0, 1, 3);
        bench.testify(2, true, 2, 0, 0, 1, 3);
        bench.testify(2, true, 2, 2, 0, 1, 3);
        bench.judge(0, 0);
        Due.is("what", bench.why(1, true, 0, 0, 0), 1);
        Due.is("the rule", bench.why(1, true, 0, 0, 1), 1);
        // Y is the first of the rule's text, X the second.
        Due.is("its first variable", bench.why(1, true, 0, 0, 2), 1);
        Due.is("its second", bench.why(1, true, 0, 0, 3), 2);
        Due.is("its third", bench.why(1, true, 0, 0, 4), 0);
        Due.is("what 5", bench.why(1, true, 0, 0, 5), -1);
        Due.is("what -1", bench.why(1, true, 0, 0, -1), -1);
        Due.is("what of the least int", bench.why(1, true, 0, 0, Integer.MIN_VALUE), -1);
        Due.is("what of the greatest int", bench.why(1, true, 0, 0, Integer.MAX_VALUE), -1);
        bench.testify(0, true, 2, 0, 0, 1, 3);
        bench.testify(0, true, 1, 0, 0, 1, 3);
        bench.judge(0, 0);
        Due.is("an earlier rule", bench.why(1, true, 0, 0, 1), 0);
        Due.is("the first person", bench.why(1, true, 0, 0, 2), 1);
        Due.is("no second variable", bench.why(1, true, 0, 0, 3), -1);
        Due.is("no third variable", bench.why(1, true, 0, 0, 4), -1);
        Due.is("of a fact", bench.why(0, true, 1, 0, 0), 0);
        Due.is("no rule of a fact", bench.why(0, true, 1, 0, 1), -1);
        Due.is("no person of a fact", bench.why(0, true, 1, 0, 2), -1);
        Due.is("of no such word", bench.why(3, true, 0, 0, 0), -1);
        // The first applicable one is the reason, though only the second is above.
        StatuteBench second = Due.bench("word w 0; law l rank 0 from 0; rule p: => w; end law k rank 2 from 0; rule q: => w; "
            + "end law m rank 1 from 0; rule x: => not w; end");
        second.judge(0, 0);
        Due.is("proved", second.status(0, true, 0, 0), PROVED);
        Due.is("by the first", second.why(0, true, 0, 0, 1), 0);
    }

    private static void reasonsOfRefuted() {
        StatuteBench bench = Due.bench("person a; person b; word w 0; word v 1; law l rank 1 from 0; rule p: => w; "
            + "bar x: v(X) => not w; bar y: => not w; end over p x;");
        bench.testify(1, true, 1, 0, 0, 1, 3);
        bench.judge(0, 0);
        Due.is("refuted", bench.status(0, true, 0, 0), REFUTED);
        Due.is("by the first that is not below", bench.why(0, true, 0, 0, 1), 2);
        StatuteBench discarded = Due.bench("person a; person b; word w 0; word v 1; law l rank 1 from 0; "
            + "rule p: if 1 < 0 => w; bar x: v(X) => not w; end over p x;");
        discarded.testify(1, true, 1, 0, 0, 1, 3);
        discarded.judge(0, 0);
        Due.is("without a rule, yet with one against it", discarded.why(0, true, 0, 0, 0), 1);
        Due.is("that one", discarded.why(0, true, 0, 0, 1), 1);
        Due.is("with that person", discarded.why(0, true, 0, 0, 2), 1);
        discarded.testify(1, false, 1, 0, 0, 1, 9);
        discarded.judge(0, 0);
        Due.is("nothing for it, nothing against it", discarded.why(0, true, 0, 0, 0), 2);
        Due.is("no rule then", discarded.why(0, true, 0, 0, 1), -1);
        discarded.testify(0, false, 0, 0, 0, 1, 9);
        discarded.judge(0, 0);
        Due.is("a fact of the opposite", discarded.why(0, true, 0, 0, 0), 0);
    }

    private static void whatIsToldLater() {
        StatuteBench bench = Due.bench("person a; word w 1; word v 0; sum s; law l rank 0 from 0; rule r: w(X) => v; "
            + "take t: => s(X) + X.0; end");
        bench.testify(0, true, 0, 0, 0, 9, 3);
        Due.is("judge", bench.judge(0, 0), 2);
        Due.read(bench, "person b; word q 0; sum z; law m rank 5 from 0; bar x: => not v; end over x r;");
        bench.testify(0, false, 0, 0, 0, 9, 9);
        bench.number(0, 0, 9);
        Due.is("the fact stays", bench.status(0, true, 0, 0), PROVED);
        Due.is("the proof stays", bench.status(1, true, 0, 0), PROVED);
        Due.is("its reason stays", bench.why(1, true, 0, 0, 2), 0);
        Due.is("the sum stays", bench.sum(0, 0, 0), 0);
        Due.is("a later person", bench.status(0, true, 1, 0), -1);
        Due.is("a later word", bench.status(2, true, 0, 0), -1);
        Due.is("why of a later word", bench.why(2, true, 0, 0, 0), -1);
        Due.is("a later sum", bench.sum(1, 0, 0), -1);
        Due.is("the sum of a later person", bench.sum(0, 1, 0), -1);
        Due.is("proved", bench.count(9), 2);
        Due.is("refuted", bench.count(10), 2);
        Due.is("a wrong day", bench.judge(-1, 0), -1);
        Due.is("proved as before", bench.count(9), 2);
        Due.is("judged again", bench.judge(0, 0), 1);
        Due.is("of the later person", bench.status(0, true, 1, 0), REFUTED);
        Due.is("of the later word", bench.status(2, true, 0, 0), REFUTED);
        Due.is("judged again without the testimonies", bench.judge(0, 9), 0);
        Due.is("the fact is gone", bench.status(0, false, 0, 0), REFUTED);
    }

    private static void literalsThatAreNone() {
        StatuteBench bench = Due.bench("person a; person b; word w 1; word v 0; word t 2;");
        bench.judge(0, 0);
        Due.is("all are refuted", bench.count(10), 14);
        int[][] wrong = {{-1, 0, 0}, {3, 0, 0}, {0, -1, 0}, {0, 2, 0}, {2, 0, 2}, {2, 2, 0}, {2, -1, 0}, {2, 0, -1},
            {Integer.MAX_VALUE, 0, 0}, {Integer.MIN_VALUE, 0, 0}, {0, Integer.MAX_VALUE, 0}, {2, 0, Integer.MIN_VALUE}};
        for (int[] w : wrong) {
            Due.is("status of " + java.util.Arrays.toString(w), bench.status(w[0], true, w[1], w[2]), -1);
            Due.is("why of " + java.util.Arrays.toString(w), bench.why(w[0], false, w[1], w[2], 0), -1);
        }
        Due.is("places not looked at", bench.status(1, true, 99, -99), REFUTED);
        Due.is("b not looked at", bench.status(0, true, 1, -99), REFUTED);
        Due.is("why, places not looked at", bench.why(1, true, 99, -99, 0), 2);
        StatuteBench noPersons = Due.bench("word w 1; word v 0; law l rank 0 from 0; rule r: w(X) => v; rule q: => not v; end");
        Due.is("without persons", noPersons.judge(0, 0), 1);
        Due.is("not v", noPersons.status(1, false, 0, 0), PROVED);
        Due.is("w of nobody", noPersons.status(0, true, 0, 0), -1);
        Due.is("literals", noPersons.count(9) + noPersons.count(10) + noPersons.count(11), 2);
    }

    /** A proof of many steps, told in the order in which it takes most rounds. */
    private static void chains() {
        StringBuilder text = new StringBuilder("person a; person b; person c; person d; person e; word w 2; word v 2; ");
        text.append("law l rank 0 from 0; rule r0: v(X, e), if X.1 == 1 => w(X, a); ");
        text.append("rule r1: v(X, Y), if Y.0 == Z.0 + 1 => v(X, Z); rule r2: w(X, Y), if Z.0 == X.0 + 1 => v(Z, a); ");
        text.append("rule r3: v(X, Y), if Z.0 == Y.0 + 1 => v(X, Z); end");
        StatuteBench bench = Due.bench(text.toString());
        for (int person = 0; person < 5; person++) {
            bench.number(person, 0, person);
            bench.number(person, 1, 1);
        }
        bench.testify(1, true, 0, 0, 0, 1, 3);
        Due.is("a proof of many steps", bench.judge(0, 0), 30);
        Due.is("its last step", bench.status(1, true, 4, 4), PROVED);
    }
}
