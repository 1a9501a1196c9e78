/** Promise 12: sum. */
public final class SumTest {
    public static void main(String[] args) {
        plain();
        orderOfWork();
        limits();
        broken();
        manyInstances();
        wrongInputs();
        Due.end();
    }

    private static void sumIs(String takes, long upper, long lower, long instances) {
        StatuteBench bench = Due.bench("person p; sum s; law l rank 0 from 0; " + takes + " end");
        bench.judge(0, 0);
        Due.is("upper of " + takes, bench.sum(0, 0, 0), upper);
        Due.is("lower of " + takes, bench.sum(0, 0, 1), lower);
        Due.is("instances of " + takes, bench.sum(0, 0, 2), instances);
        Due.is("broken of " + takes, bench.sum(0, 0, 3), lower == 0 ? 1 : 0);
    }

    private static void brokenIs(String takes, long instances) {
        sumIs(takes, 0, 0, instances);
    }

    private static void plain() {
        sumIs("", 0, 1, 0);
        sumIs("take t: => s(p) + 7;", 7, 1, 1);
        sumIs("take t: => s(p) + 2/4;", 1, 2, 1);
        sumIs("take t: => s(p) + -2/4;", -1, 2, 1);
        sumIs("take t: => s(p) + 1/2; take u: => s(p) + 1/3;", 5, 6, 2);
        sumIs("take t: => s(p) + 1/2; take u: => s(p) + -1/2;", 0, 1, 2);
        sumIs("take t: if 1 < 0 => s(p) + 7;", 0, 1, 0);
        sumIs("take t: => s(p) * 3;", 0, 1, 1);
        sumIs("take t: => s(p) + 7 - 3 - 2;", 2, 1, 1);
    }

    private static void orderOfWork() {
        sumIs("take t: => s(p) * 1/2; take u: => s(p) + 3; take v: => s(p) * 5; take w: => s(p) + 1;", 10, 1, 4);
        sumIs("take t: => s(p) + 3; take u: => s(p) * 0;", 0, 1, 2);
        sumIs("take t: => s(p) + 3; take u: => s(p) * -2/3;", -2, 1, 2);
    }

    private static void limits() {
        sumIs("take t: => s(p) + 9; take u: => s(p) most 5;", 5, 1, 2);
        sumIs("take t: => s(p) + 9; take u: => s(p) most 5; take v: => s(p) most 4; take w: => s(p) most 6;", 4, 1, 4);
        sumIs("take t: => s(p) + 9; take u: => s(p) most 9;", 9, 1, 2);
        sumIs("take t: => s(p) + 3; take u: => s(p) least 5;", 5, 1, 2);
        sumIs("take t: => s(p) + 3; take u: => s(p) least 5; take v: => s(p) least 6; take w: => s(p) least 4;", 6, 1, 4);
        sumIs("take t: => s(p) + 3; take u: => s(p) least 5; take v: => s(p) most 4;", 5, 1, 3);
        sumIs("take t: => s(p) + 9; take u: => s(p) least 5; take v: => s(p) most 4;", 5, 1, 3);
        sumIs("take u: => s(p) least 5;", 5, 1, 1);
        sumIs("take u: => s(p) most -1/2;", -1, 2, 1);
        sumIs("take u: => s(p) most 1;", 0, 1, 1);
        sumIs("take t: => s(p) most 3; take u: => s(p) + 4; take v: => s(p) * 2; take w: => s(p) least 1;", 3, 1, 4);
    }

    private static void broken() {
        sumIs("take t: => s(p) + 100000 * 10000;", 1000000000, 1, 1);
        sumIs("take t: => s(p) + -100000 * 10000;", -1000000000, 1, 1);
        sumIs("take t: => s(p) + 1/100000 * 1/10000;", 1, 1000000000, 1);
        brokenIs("take t: => s(p) + 100000 * 10000 + 1;", 1);
        brokenIs("take t: => s(p) + 100000 * 10000; take u: => s(p) + 1;", 2);
        brokenIs("take t: => s(p) + 100000 * 10000; take u: => s(p) + 1; take v: => s(p) + -1;", 3);
        sumIs("take t: => s(p) + 100000 * 10000; take v: => s(p) + -1; take u: => s(p) + 1;", 1000000000, 1, 3);
        brokenIs("take t: => s(p) * 100000; take u: => s(p) * 100000;", 2);
        brokenIs("take t: => s(p) * 100000; take u: => s(p) * 100000; take v: => s(p) * 0;", 3);
        brokenIs("take t: => s(p) + 100000; take u: => s(p) * 100000;", 2);
        brokenIs("take t: => s(p) + 100000; take u: => s(p) * 100000; take v: => s(p) most 1;", 3);
        brokenIs("take t: => s(p) + 1; take v: => s(p) most 100000 * 100000;", 2);
        brokenIs("take t: => s(p) + 1; take v: => s(p) least 100000 * 100000 - 1; take w: => s(p) least 3;", 3);
        brokenIs("take t: => s(p) * 0 * (100000 * 100000);", 1);
        sumIs("take t: if 100000 * 100000 != 0 => s(p) + 1;", 0, 1, 0);
        StatuteBench bench = Due.bench("person p; person q; sum s; sum z; law l rank 0 from 0; "
            + "take t: => s(p) + 100000 * 100000; take u: => s(q) + 1; take v: => z(p) + 2; end");
        bench.judge(0, 0);
        Due.is("only one is broken", bench.sum(0, 0, 3), 1);
        Due.is("not that of another person", bench.sum(0, 1, 0), 1);
        Due.is("nor another sum", bench.sum(1, 0, 0), 2);
    }

    private static void manyInstances() {
        StatuteBench bench = Due.bench("person a; person b; person c; word owes 2; sum due; law l rank 0 from 0 until 5; "
            + "take t: owes(X, Y) => due(X) + Y.0; take u: => due(a) + X.1; take v: other X Y => due(X) * 2; end");
        bench.testify(0, true, 0, 1, 0, 9, 3);
        bench.testify(0, true, 0, 2, 0, 9, 3);
        bench.testify(0, true, 1, 1, 0, 9, 2);
        bench.number(1, 0, 10);
        bench.number(2, 0, 5);
        bench.number(2, 1, 3);
        bench.judge(0, 0);
        Due.is("due(a)", bench.sum(0, 0, 0), (10 + 5 + 3) * 4);
        Due.is("instances for a", bench.sum(0, 0, 2), 2 + 3 + 2);
        Due.is("due(b)", bench.sum(0, 1, 0), 0);
        Due.is("instances for b", bench.sum(0, 1, 2), 2);
        Due.is("applicable ones", bench.count(12), 2 + 3 + 6);
        bench.judge(0, 5);
        Due.is("no law is in force", bench.sum(0, 0, 2), 0);
        Due.is("0", bench.sum(0, 0, 0), 0);
        Due.is("1", bench.sum(0, 0, 1), 1);
        Due.is("not broken", bench.sum(0, 0, 3), 0);
    }

    private static void wrongInputs() {
        StatuteBench bench = Due.bench("person p; sum s;");
        Due.is("nothing is judged", bench.sum(0, 0, 0), -1);
        bench.judge(0, 0);
        Due.is("0 without an instance", bench.sum(0, 0, 0), 0);
        Due.is("1 without an instance", bench.sum(0, 0, 1), 1);
        int[][] wrong = {{1, 0, 0}, {-1, 0, 0}, {0, 1, 0}, {0, -1, 0}, {0, 0, 4}, {0, 0, -1},
            {Integer.MAX_VALUE, 0, 0}, {Integer.MIN_VALUE, 0, 0}, {0, Integer.MAX_VALUE, 0}, {0, 0, Integer.MIN_VALUE}};
        for (int[] w : wrong) {
            Due.is("sum of " + java.util.Arrays.toString(w), bench.sum(w[0], w[1], w[2]), -1);
        }
    }
}
