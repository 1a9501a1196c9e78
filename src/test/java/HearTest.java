/** Promises 6, 7 and 8: clock, testify and number. */
public final class HearTest {
    private static final int MIN = Integer.MIN_VALUE;
    private static final int MAX = Integer.MAX_VALUE;

    public static void main(String[] args) {
        clock();
        testimonies();
        manyTestimonies();
        toldDays();
        numbers();
        Due.end();
    }

    private static void clock() {
        StatuteBench bench = new StatuteBench();
        Due.is("clock(0)", bench.clock(0), true);
        Due.is("clock(-1)", bench.clock(-1), false);
        Due.is("clock(5)", bench.clock(5), true);
        Due.is("clock(5) again", bench.clock(5), true);
        Due.is("clock(4)", bench.clock(4), false);
        Due.is("the day", bench.count(7), 5);
        Due.is("clock(1000000)", bench.clock(1000000), false);
        Due.is("clock of the greatest int", bench.clock(MAX), false);
        Due.is("clock of the least int", bench.clock(MIN), false);
        Due.is("the day as before", bench.count(7), 5);
        Due.read(bench, "law l rank 0 from 0; end");
        Due.is("the day on which a law was made", bench.law(0, 1), 5);
        Due.is("clock(999999)", bench.clock(999999), true);
        Due.is("the last day", bench.count(7), 999999);
        Due.is("clock(999998)", bench.clock(999998), false);
        Due.is("the day of the law as before", bench.law(0, 1), 5);
    }

    private static void testimonies() {
        StatuteBench bench = Due.bench("person a; person b; word none 0; word one 1; word two 2;");
        Due.is("the first", bench.testify(0, true, 0, 0, 0, 1, 1), 0);
        Due.is("places not looked at", bench.testify(0, false, -7, MAX, 0, 1000000, 9), 1);
        Due.is("b not looked at", bench.testify(1, true, 1, -1, 999999, 1000000, 5), 2);
        Due.is("two places", bench.testify(2, true, 1, 0, 3, 4, 5), 3);
        Due.is("twice the same", bench.testify(2, true, 1, 0, 3, 4, 5), 4);
        int[][] wrong = {
            {3, 0, 0, 0, 1, 1}, {-1, 0, 0, 0, 1, 1}, {MAX, 0, 0, 0, 1, 1}, {MIN, 0, 0, 0, 1, 1},
            {1, 2, 0, 0, 1, 1}, {1, -1, 0, 0, 1, 1}, {2, 0, 2, 0, 1, 1}, {2, 0, -1, 0, 1, 1},
            {2, 2, 0, 0, 1, 1}, {2, MIN, MAX, 0, 1, 1},
            {0, 0, 0, 1, 1, 1}, {0, 0, 0, 2, 1, 1}, {0, 0, 0, -1, 1, 1}, {0, 0, 0, 0, 0, 1},
            {0, 0, 0, 0, 1000001, 1}, {0, 0, 0, MIN, MAX, 1}, {0, 0, 0, MIN, MIN, 1}, {0, 0, 0, 0, MIN, 1},
            {0, 0, 0, 0, 1, 0}, {0, 0, 0, 0, 1, 10}, {0, 0, 0, 0, 1, -1}, {0, 0, 0, 0, 1, MIN},
        };
        for (int[] w : wrong) {
            Due.is("a wrong one " + java.util.Arrays.toString(w),
                bench.testify(w[0], true, w[1], w[2], w[3], w[4], w[5]), -1);
        }
        Due.is("testimonies", bench.count(6), 5);
        StatuteBench noPersons = Due.bench("word none 0; word one 1;");
        Due.is("without places", noPersons.testify(0, true, 0, 0, 0, 1, 3), 0);
        Due.is("without persons", noPersons.testify(1, true, 0, 0, 0, 1, 3), -1);
    }

    private static void manyTestimonies() {
        StatuteBench bench = Due.bench("word w 0;");
        for (int i = 0; i < 100; i++) {
            Due.is("testimony " + i, bench.testify(0, i % 2 == 0, 0, 0, 0, 9, 9), i);
        }
        Due.is("the 101st", bench.testify(0, true, 0, 0, 0, 9, 9), -1);
        Due.is("testimonies", bench.count(6), 100);
        Due.is("450 against 450", bench.judge(0, 0), 0);
    }

    /** A testimony counts if it was told on k or before, and its time has e. */
    private static void toldDays() {
        StatuteBench bench = Due.bench("word w 0;");
        bench.clock(4);
        bench.testify(0, true, 0, 0, 2, 6, 3);
        int[][] due = {{3, 3, 0}, {4, 1, 0}, {4, 2, 1}, {4, 5, 1}, {4, 6, 0}, {999999, 5, 1}, {0, 5, 0}};
        for (int[] d : due) {
            Due.is("judge(" + d[0] + ", " + d[1] + ")", bench.judge(d[0], d[1]), d[2]);
        }
        bench.clock(5);
        bench.testify(0, false, 0, 0, 0, 9, 3);
        Due.is("as known ahead of the second", bench.judge(4, 3), 1);
        Due.is("as known with the second", bench.judge(5, 3), 0);
        Due.is("only the second has the day", bench.judge(5, 7), 1);
        Due.is("which is not so", bench.status(0, false, 0, 0), 1);
    }

    private static void numbers() {
        StatuteBench bench = Due.bench("person a; person b; sum s; law l rank 0 from 0; "
            + "take t0: => s(X) + X.0; take t1: => s(X) + X.1 * 1/10; "
            + "take t2: => s(X) + X.2 * 100; take t3: => s(X) + X.3; end");
        bench.judge(0, 0);
        Due.is("0 at first", bench.sum(0, 0, 0), 0);
        Due.is("number 0", bench.number(0, 0, 999999), true);
        Due.is("number 3", bench.number(0, 3, -999999), true);
        Due.is("number 1", bench.number(0, 1, 5), true);
        Due.is("number 1 again", bench.number(0, 1, 7), true);
        Due.is("number of another", bench.number(1, 2, -3), true);
        Due.is("person 2", bench.number(2, 0, 1), false);
        Due.is("person -1", bench.number(-1, 0, 1), false);
        Due.is("person of the greatest int", bench.number(MAX, 0, 1), false);
        Due.is("person of the least int", bench.number(MIN, 0, 1), false);
        Due.is("k 4", bench.number(0, 4, 1), false);
        Due.is("k -1", bench.number(0, -1, 1), false);
        Due.is("k of the greatest int", bench.number(0, MAX, 1), false);
        Due.is("v 1000000", bench.number(0, 0, 1000000), false);
        Due.is("v -1000000", bench.number(0, 0, -1000000), false);
        Due.is("v of the least int", bench.number(0, 0, MIN), false);
        Due.is("what was judged stays", bench.sum(0, 0, 0), 0);
        bench.judge(0, 999999);
        Due.is("of a, upper", bench.sum(0, 0, 0), 7);
        Due.is("of a, lower", bench.sum(0, 0, 1), 10);
        Due.is("of b", bench.sum(0, 1, 0), -300);
        StatuteBench later = Due.bench("person a;");
        Due.is("a person of a faulty text", Due.read(later, "person b; #"), 1);
        Due.is("has no numbers", later.number(1, 0, 5), false);
    }
}
