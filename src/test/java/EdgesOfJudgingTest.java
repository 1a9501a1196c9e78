/** The edges of parts II to V of the document's terms, sentence by sentence. */
public final class EdgesOfJudgingTest {
    private static final int REFUTED = 0;
    private static final int PROVED = 1;
    private static final int OPEN = 2;
    private static final int LAST_DAY = 999999;

    public static void main(String[] args) {
        mostTestimonies();
        dayOfTestimonies();
        timeOfTestimonies();
        weightsOfFacts();
        weightsAgainstFacts();
        dayOfLaws();
        timeOfLaws();
        oversFirst();
        ranksThenDays();
        notAboveItself();
        instancesOfNobody();
        mostInstances();
        upperParts();
        lowerParts();
        lowestTerms();
        brokenConditions();
        likeness();
        comparisons();
        discarded();
        factsAgainstRules();
        provedAgainstEach();
        refutedWithoutRules();
        refutedByOne();
        leastThatIsMade();
        firstReasons();
        reasonsOfRefuted();
        sumsOfNothing();
        amountsAndFactors();
        eachSumByItself();
        manyAndDeepFormulas();
        mostAndLeast();
        brokenSums();
        linesOfLiterals();
        linesOfSums();
        Due.end();
    }

    private static StatuteBench lawful(String head, String rules) {
        return Due.bench(head + " law l rank 1 from 0; " + rules + " end");
    }

    private static void literal(String what, StatuteBench bench, int word, int so, int not) {
        Due.is(what + ", so", bench.status(word, true, 0, 0), so);
        Due.is(what + ", not", bench.status(word, false, 0, 0), not);
    }

    private static void mostTestimonies() {
        Due.by("TESTIMONIES, 100 at most");
        StatuteBench bench = Due.bench("word w 0;");
        for (int i = 0; i < 99; i++) {
            bench.testify(0, i % 2 == 0, 0, 0, 0, 1, 9);
        }
        Due.is("99 of them: 450 against 441", bench.judge(0, 0), 1);
        Due.is("the 100th", bench.testify(0, false, 0, 0, 0, 1, 9), 99);
        Due.is("450 against 450", bench.judge(0, 0), 0);
        Due.is("the 101st", bench.testify(0, true, 0, 0, 0, 1, 9), -1);
        Due.is("100 are there", bench.count(6), 100);
        Due.is("450 against 450 still", bench.judge(0, 0), 0);
    }

    private static void dayOfTestimonies() {
        Due.by("testimonies count that were told on k or before");
        StatuteBench bench = Due.bench("word w 0;");
        bench.clock(5);
        bench.testify(0, true, 0, 0, 0, 1000000, 3);
        int[][] due = {{0, 0}, {4, 0}, {5, 1}, {6, 1}, {LAST_DAY, 1}};
        for (int[] d : due) {
            Due.is("known on " + d[0], bench.judge(d[0], 0), d[1]);
        }
        StatuteBench ends = Due.bench("word w 0; word v 0;");
        ends.testify(0, true, 0, 0, 0, 1, 3);
        ends.clock(LAST_DAY);
        ends.testify(1, true, 0, 0, 0, 1, 3);
        Due.is("known on the first day", ends.judge(0, 0), 1);
        Due.is("known on the last day but one", ends.judge(LAST_DAY - 1, 0), 1);
        Due.is("known on the last day", ends.judge(LAST_DAY, 0), 2);
    }

    private static void timeOfTestimonies() {
        Due.by("from a DAY on, up to (not with) another one .. whose time has e");
        int[][] times = {{5, 8}, {0, 1}, {LAST_DAY, LAST_DAY + 1}, {0, LAST_DAY + 1}, {7, 8}};
        for (int[] time : times) {
            StatuteBench bench = Due.bench("word w 0;");
            bench.testify(0, false, 0, 0, time[0], time[1], 3);
            for (int e : new int[] {time[0] - 1, time[0], time[1] - 1, time[1]}) {
                int due = e < 0 || e > LAST_DAY ? -1 : e >= time[0] && e < time[1] ? 1 : 0;
                Due.is("from " + time[0] + " until " + time[1] + " on " + e, bench.judge(0, e), due);
            }
        }
    }

    private static void weightsOfFacts() {
        Due.by("a FACT if the WEIGHTS for it are 3 or more together");
        int[][] rows = {{1}, {2}, {3}, {9}, {1, 1}, {1, 2}, {2, 1}, {1, 1, 1}, {2, 2}};
        for (int[] row : rows) {
            StatuteBench bench = Due.bench("person a; person b; word w 1;");
            int together = 0;
            for (int weight : row) {
                bench.testify(0, true, 0, 0, 0, 1, weight);
                // Those of another LITERAL, and of another time, do not count.
                bench.testify(0, true, 1, 0, 0, 1, 1);
                bench.testify(0, true, 0, 0, 1, 2, 9);
                together += weight;
            }
            bench.judge(0, 0);
            literal("weight " + together, bench, 0, together >= 3 ? PROVED : REFUTED, REFUTED);
            Due.is("why with weight " + together, bench.why(0, true, 0, 0, 0), together >= 3 ? 0 : 2);
        }
    }

    private static void weightsAgainstFacts() {
        Due.by("and more than those for its opposite");
        int[][] rows = {{3, 1}, {3, 2}, {3, 3}, {3, 4}, {4, 3}, {2, 1}, {2, 3}, {9, 8}, {9, 9}, {8, 9}, {1, 2}, {2, 2}};
        for (int[] row : rows) {
            StatuteBench bench = Due.bench("word w 0;");
            bench.testify(0, true, 0, 0, 0, 1, row[0]);
            bench.testify(0, false, 0, 0, 0, 1, row[1]);
            boolean so = row[0] >= 3 && row[0] > row[1];
            boolean not = row[1] >= 3 && row[1] > row[0];
            Due.is(row[0] + " against " + row[1], bench.judge(0, 0), so || not ? 1 : 0);
            literal(row[0] + " against " + row[1], bench, 0, so ? PROVED : REFUTED, not ? PROVED : REFUTED);
        }
    }

    private static void dayOfLaws() {
        Due.by("IN FORCE if its LAW was MADE on k or before");
        StatuteBench bench = Due.bench("word w 0;");
        bench.clock(5);
        Due.is("read", Due.read(bench, "law l rank 0 from 0; rule r: => w; end"), 0);
        int[][] due = {{0, 0}, {4, 0}, {5, 1}, {6, 1}, {LAST_DAY, 1}};
        for (int[] d : due) {
            Due.is("known on " + d[0], bench.judge(d[0], 7), d[1]);
        }
    }

    private static void timeOfLaws() {
        Due.by("the first DAY of its force, the first DAY behind it (none: for ever) .. and e is within its force");
        int[][] times = {{5, 8}, {0, 1}, {998, 999}, {LAST_DAY - 1, LAST_DAY}, {0, -1}, {5, -1}, {LAST_DAY, -1}};
        for (int[] time : times) {
            String until = time[1] < 0 ? "" : " until " + time[1];
            String force = "law l rank 0 from " + time[0] + until + "; ";
            StatuteBench bench = Due.bench("word w 0; " + force + "rule r: => w; end");
            int behind = time[1] < 0 ? LAST_DAY + 1 : time[1];
            for (int e : new int[] {time[0] - 1, time[0], behind - 1, behind, LAST_DAY}) {
                int due = e < 0 || e > LAST_DAY ? -1 : e >= time[0] && e < behind ? 1 : 0;
                Due.is(force + " on " + e, bench.judge(0, e), due);
            }
        }
    }

    private static void oversFirst() {
        Due.by("if an over that tells one of both ahead of the other is there, "
            + "the first one such (of any day) decides");
        String laws = "word w 0; word v 0; law l rank 9 from 0; rule a: => w; end "
            + "law k rank 0 from 0; rule b: => not w; rule c: => v; end ";
        String[] overs = {"", "over a b;", "over b a;", "over a b; over b a;", "over b a; over a b;",
            "over c a; over b c;",
            "over c b; over b a; over a b;"};
        int[] bAboveA = {0, 0, 1, 0, 1, 0, 1};
        for (int i = 0; i < overs.length; i++) {
            StatuteBench bench = Due.bench(laws + overs[i]);
            Due.is("b above a by " + overs[i], bench.above(1, 0), bAboveA[i]);
            Due.is("a above b by " + overs[i], bench.above(0, 1), 1 - bAboveA[i]);
        }
        StatuteBench late = Due.bench(laws);
        late.clock(LAST_DAY);
        Due.is("read", Due.read(late, "over b a;"), 0);
        late.judge(0, 0);
        literal("an over told behind k", late, 0, REFUTED, PROVED);
    }

    private static void above(String what, String first, String second, int secondDay, int due) {
        StatuteBench bench = Due.bench("word w 0; law l " + first + "; rule a: => w; end");
        bench.clock(secondDay);
        Due.is("read", Due.read(bench, "law k " + second + "; rule b: => not w; end"), 0);
        Due.is(what + ", the first", bench.above(0, 1), due > 0 ? 1 : 0);
        Due.is(what + ", the second", bench.above(1, 0), due < 0 ? 1 : 0);
    }

    private static void ranksThenDays() {
        Due.by("else if its LAW's RANK is greater; of alike RANKS, if its LAW was MADE later; "
            + "of alike DAYS, if its LAW's force begins later");
        above("alike in all", "rank 3 from 4", "rank 3 from 4", 0, 0);
        above("alike but for until", "rank 3 from 4 until 5", "rank 3 from 4", 0, 0);
        above("a rank", "rank 4 from 4", "rank 3 from 4", 0, 1);
        above("a rank of the second", "rank 0 from 4", "rank 1 from 4", 0, -1);
        above("the ranks' ends", "rank 9 from 0", "rank 0 from 999999", 999999, 1);
        above("a day", "rank 3 from 4", "rank 3 from 4", 1, -1);
        above("a day against a force", "rank 3 from 5", "rank 3 from 4", 1, -1);
        above("a force", "rank 3 from 5", "rank 3 from 4", 0, 1);
        above("a force of the second", "rank 3 from 0", "rank 3 from 1", 0, -1);
        above("a rank against all else", "rank 4 from 0", "rank 3 from 9", 9, 1);
    }

    private static void notAboveItself() {
        Due.by("One is not above itself, nor another one of the same LAW but by over");
        StatuteBench bench = lawful("word w 0;", "rule a: => w; rule b: => not w; bar c: => w;");
        for (int r = 0; r < 3; r++) {
            for (int s = 0; s < 3; s++) {
                Due.is("above(" + r + ", " + s + ")", bench.above(r, s), 0);
            }
        }
        Due.is("read", Due.read(bench, "over c a;"), 0);
        Due.is("by over", bench.above(2, 0), 1);
        Due.is("the other way", bench.above(0, 2), 0);
        Due.is("itself still", bench.above(2, 2), 0);
        Due.is("one without an over", bench.above(2, 1), 0);
    }

    private static void instancesOfNobody() {
        Due.by("AN INSTANCE of a RULE gives each of its VARS a PERSON");
        String rules = "rule a: same X X => w; bar b: => v; take t: => s(X) + 1; rule c: => v;";
        StatuteBench none = lawful("word w 0; word v 0; sum s;", rules);
        Due.is("without persons", none.judge(0, 0), 1);
        Due.is("INSTANCES without VARS", none.count(12), 2);
        literal("by a RULE with a VAR", none, 0, REFUTED, REFUTED);
        literal("by a RULE without VARS", none, 1, PROVED, REFUTED);
        StatuteBench one = lawful("person p; word w 0; word v 0; sum s;", rules);
        Due.is("with a person", one.judge(0, 0), 2);
        Due.is("INSTANCES with a person", one.count(12), 4);
        StatuteBench two = lawful("person p; person q; word w 0; word v 0; sum s;", rules);
        two.judge(0, 0);
        Due.is("INSTANCES with two persons", two.count(12), 6);
    }

    private static void mostInstances() {
        Due.by("(AN INSTANCE, of the most RULES, VARS and PERSONS)");
        StringBuilder text = new StringBuilder("person a; person b; person c; person d; person e; word w 2; sum s; "
            + "law l rank 0 from 0; ");
        for (int i = 0; i < 15; i++) {
            text.append("rule r").append(i).append(": if X.0 + Y.0 == Z.0 => w(Z, X); ");
            text.append("take t").append(i).append(": if X.0 + Y.0 == Z.0 => s(Y) + 1; ");
        }
        StatuteBench bench = Due.bench(text + "end");
        Due.is("all are PROVED", bench.judge(0, 0), 25);
        Due.is("30 RULES with 125 INSTANCES", bench.count(12), 3750);
        Due.is("INSTANCES of a SUM", bench.sum(0, 4, 2), 375);
        Due.is("a SUM of them", bench.sum(0, 4, 0), 375);
        Due.is("the first PERSON of the last LITERAL", bench.why(0, true, 4, 4, 2), 4);
        Due.is("the second one", bench.why(0, true, 4, 4, 3), 0);
        Due.is("the third one", bench.why(0, true, 4, 4, 4), 4);
        bench.number(4, 0, 1);
        bench.judge(0, 0);
        Due.is("30 RULES with 72 INSTANCES that hold", bench.count(12), 30 * (64 + 4 + 4));
    }

    private static void holds(String condition, boolean due) {
        StatuteBench bench = lawful("person p; word w 0;", "rule r: if " + condition + " => w;");
        bench.number(0, 0, 999999);
        bench.number(0, 1, -999999);
        Due.is("if " + condition, bench.judge(0, 0), due ? 1 : 0);
    }

    private static void upperParts() {
        Due.by("one whose upper .. part would be above 1000000000 (in size) is a BREAK");
        holds("999999 * 1000 + 1000 == 100000 * 10000", true);
        holds("999999 * 1000 + 999 < 100000 * 10000", true);
        holds("999999 * 1000 + 1001 != 0", false);
        holds("-999999 * 1000 - 1000 == -100000 * 10000", true);
        holds("-999999 * 1000 - 1001 != 0", false);
        holds("p.1 * 1000 - 1000 < 0", true);
        holds("p.1 * 1000 - 1001 < 0", false);
        holds("p.0 * p.0 != 0", false);
        holds("p.0 * p.1 != 0", false);
        holds("100000 * 10000 * 1/3 != 0", true);
        holds("100000 * 10000 * 1/3 + 1/3 != 0", false);
        holds("31622 * 31623 != 0", true);
        holds("31623 * 31623 != 0", false);
    }

    private static void lowerParts() {
        Due.by("or lower part would be above 1000000000");
        holds("1/100000 * 1/10000 != 0", true);
        holds("1/999999 * 1/1000 != 0", true);
        holds("1/333334 * 1/3000 != 0", false);
        // 1001 * 999001 is the first number above the most.
        holds("1/1001 * 1/999001 != 0", false);
        holds("-1/1001 * 1/999001 != 0", false);
        holds("1/1001 + 1/999001 != 0", false);
        holds("7/1001 * 1/999001 != 0", true);
        holds("-1/100000 * 1/10000 < 0", true);
        holds("1/100000 * 1/10001 != 0", false);
        holds("1/31622 + 1/31623 != 0", true);
        holds("1/31623 + 1/31624 != 0", false);
        holds("1/31622 - 1/31623 != 0", true);
        holds("1/31623 - 1/31624 != 0", false);
    }

    private static void lowestTerms() {
        Due.by("E's are worked out in fractions, in lowest terms");
        // The parts are looked at in lowest terms alone, and products of parts have 18 digits.
        String tiny = "1/100000 * 1/10000";
        holds(tiny + " + " + tiny + " == 2 * " + tiny, true);
        holds(tiny + " - " + tiny + " == 0", true);
        holds("(" + tiny + ") * (100000 * 10000) == 1", true);
        holds("(" + tiny + " + 1/999999) * 0 == 0", false);
        holds("999999/999998 * 999998/999999 == 1", true);
        holds("2/4 == 1/2", true);
        holds("-2/4 == -1/2", true);
        holds("0/999999 == 0", true);
        holds("0/999999 * 1/999999 * 1/999999 == 0", true);
        // 999999999 / 1000000000 is above 999999998 / 999999999 by less than a trillionth of a millionth.
        String nearly = "1 - " + tiny;
        String lower = "1 - 1/333667 * 1/2997";
        holds(lower + " < " + nearly, true);
        holds(nearly + " <= " + lower, false);
        holds(nearly + " == " + lower, false);
        holds(nearly + " != " + lower, true);
        holds("-(" + nearly + ") < -(" + lower + ")", true);
        holds(nearly + " + " + lower + " != 0", false);
    }

    private static void brokenConditions() {
        Due.by("a COND with it does not hold");
        String broken = "100000 * 100000";
        for (String sign : new String[] {"==", "!=", "<", "<="}) {
            holds(broken + " " + sign + " 0", false);
            holds("0 " + sign + " " + broken, false);
            holds(broken + " " + sign + " " + broken, false);
            holds("0 * (" + broken + ") " + sign + " 0", false);
            holds(broken + " - " + broken + " " + sign + " 0", false);
            holds("(" + broken + ") * 1/100000 " + sign + " 1", false);
            holds("-(" + broken + ") " + sign + " 0", false);
        }
        StatuteBench bench = lawful("word w 0; word v 0;",
            "rule r: => w; bar b: if " + broken + " < 1 => not w; rule q: w, if 1 < 2, if " + broken + " != 1 => v;");
        Due.is("a broken bar is discarded", bench.judge(0, 0), 1);
        literal("w", bench, 0, PROVED, REFUTED);
        literal("v", bench, 1, REFUTED, REFUTED);
    }

    private static void likeness() {
        Due.by("its CONDS 'same', 'other' .. hold");
        String[] conditions = {"same p p", "same p q", "other p p", "other p q", "same X X", "other X X", "same X p",
            "other X p",
            "same X Y", "other X Y", "same X Y, other X Y"};
        int[] instances = {1, 0, 0, 1, 2, 0, 1, 1, 2, 2, 0};
        for (int i = 0; i < conditions.length; i++) {
            StatuteBench bench = lawful("person p; person q; word w 0;", "rule r: " + conditions[i] + " => w;");
            bench.judge(0, 0);
            Due.is("INSTANCES with " + conditions[i], bench.count(12), instances[i]);
        }
    }

    private static void comparisons() {
        Due.by("'if' E ('==' | '!=' | '<' | '<=') E");
        String[] signs = {"==", "!=", "<", "<="};
        boolean[][] due = {{false, true, true, true}, {true, false, false, true}, {false, true, false, false}};
        String[][] pairs = {{"1/3", "1/2"}, {"-1/2", "-1/3"}, {"0", "1/999999"}, {"-1", "0"}};
        for (String[] pair : pairs) {
            for (int i = 0; i < signs.length; i++) {
                holds(pair[0] + " " + signs[i] + " " + pair[1], due[0][i]);
                holds(pair[0] + " " + signs[i] + " " + pair[0], due[1][i]);
                holds(pair[1] + " " + signs[i] + " " + pair[0], due[2][i]);
            }
        }
        holds("-0 == 0", true);
        holds("5 - 2 - 1 == 2", true);
        holds("-2 + 3 == 1", true);
        holds("-2 * 3 - 4 == -10", true);
        holds("2 + 3 * 4 == 14", true);
        holds("2 * 3 + 4 * 5 == 26", true);
        holds("2 - (3 - (4 - 5)) == -2", true);
    }

    private static void discarded() {
        Due.by("DISCARDED: it is not IN FORCE, one of these does not hold, or a LIT of it is REFUTED");
        String[] against = {"bar b: => not w;", "bar b: if 1 < 0 => not w;", "bar b: v => not w;",
            "bar b: not v => not w;",
            "bar b: x => not w;", "bar b: x, v => not w;", "bar b: x, if 1 < 0 => not w;", "bar b: not x => not w;"};
        int[] due = {REFUTED, PROVED, PROVED, REFUTED, OPEN, PROVED, PROVED, PROVED};
        for (int i = 0; i < against.length; i++) {
            StatuteBench bench = lawful("word w 0; word v 0; word x 0;",
                "rule r: => w; rule n: => not v; rule o: x => x; " + against[i]);
            bench.judge(0, 0);
            Due.is(against[i], bench.status(0, true, 0, 0), due[i]);
        }
        StatuteBench force = Due.bench("word w 0; law l rank 0 from 0; rule r: => w; end "
            + "law k rank 9 from 5 until 6; bar b: => not w; end");
        int[] days = {PROVED, REFUTED, PROVED};
        for (int e = 4; e <= 6; e++) {
            force.judge(0, e);
            Due.is("a bar from 5 until 6, on " + e, force.status(0, true, 0, 0), days[e - 4]);
        }
    }

    private static void factsAgainstRules() {
        Due.by("PROVED is a LITERAL that is a FACT; or whose opposite is no FACT");
        StatuteBench bench = Due.bench("word w 0; law l rank 9 from 0; "
            + "rule r: => w; rule q: => not w; bar b: => w; end over r q;");
        bench.judge(0, 0);
        literal("by the rules", bench, 0, PROVED, REFUTED);
        bench.testify(0, false, 0, 0, 0, 1, 2);
        bench.judge(0, 0);
        literal("with weight 2 against it", bench, 0, PROVED, REFUTED);
        bench.testify(0, false, 0, 0, 0, 1, 1);
        bench.judge(0, 0);
        literal("with weight 3 against it", bench, 0, REFUTED, PROVED);
        Due.is("why", bench.why(0, true, 0, 0, 0), 0);
        bench.testify(0, true, 0, 0, 0, 1, 3);
        bench.judge(0, 0);
        literal("with weight 3 against 3", bench, 0, PROVED, REFUTED);
        Due.is("why, with no FACT", bench.why(0, true, 0, 0, 0), 1);
        bench.testify(0, true, 0, 0, 0, 1, 1);
        bench.judge(0, 0);
        literal("with weight 4 against 3", bench, 0, PROVED, REFUTED);
        Due.is("why, with a FACT", bench.why(0, true, 0, 0, 0), 0);
    }

    private static void provedAgainstEach() {
        Due.by("while each INSTANCE of a rule or bar for its opposite is DISCARDED, "
            + "or an APPLICABLE INSTANCE of a rule for it is ABOVE that one");
        String head = "word w 0; word x 0;";
        String[] rules = {"rule a: => w;", "bar a: => w;", "rule a: => w; bar b: => not w;",
            "rule a: => w; rule b: => not w;",
            "rule a: => w; bar b: => not w; bar c: => not w;", "rule a: => w; rule c: => w; bar b: => not w;",
            "rule a: x => w; rule c: => w; bar b: => not w;", "rule c: => w; bar a: => w; bar b: => not w;"};
        int[] plain = {PROVED, REFUTED, REFUTED, REFUTED, REFUTED, REFUTED, REFUTED, REFUTED};
        int[] withOver = {PROVED, REFUTED, PROVED, PROVED, REFUTED, PROVED, OPEN, REFUTED};
        for (int i = 0; i < rules.length; i++) {
            StatuteBench bench = lawful(head, "rule o: x => x; " + rules[i]);
            bench.judge(0, 0);
            Due.is(rules[i], bench.status(0, true, 0, 0), plain[i]);
            boolean two = rules[i].contains("b:");
            Due.is("read", Due.read(bench, two ? "over a b;" : ""), 0);
            bench.judge(0, 0);
            Due.is(rules[i] + " over a b", bench.status(0, true, 0, 0), withOver[i]);
        }
    }

    private static void refutedWithoutRules() {
        Due.by("REFUTED is a LITERAL that is no FACT .. or for which each INSTANCE of a rule is DISCARDED");
        String[] rules = {"", "rule a: if 1 < 0 => w;", "rule a: x => w;", "rule a: x => w; rule b: if 1 < 0 => w;",
            "rule a: not x => w;", "bar a: => w;", "rule a: v => w; bar b: => w;", "rule a: => w;"};
        int[] due = {REFUTED, REFUTED, OPEN, OPEN, REFUTED, REFUTED, REFUTED, PROVED};
        for (int i = 0; i < rules.length; i++) {
            StatuteBench bench = lawful("word w 0; word x 0; word v 0;", "rule o: x => x; " + rules[i]);
            bench.judge(0, 0);
            literal("[" + rules[i] + "]", bench, 0, due[i], REFUTED);
        }
    }

    private static void refutedByOne() {
        Due.by("against which an INSTANCE of a rule or bar for its opposite is APPLICABLE, "
            + "such that each INSTANCE of a rule for it is DISCARDED or not ABOVE that one");
        String[] rules = {"rule a: x => w; bar b: => not w;", "rule a: x => w; bar b: x => not w;",
            "rule a: if 1 < 0 => w; rule c: x => w; bar b: => not w;",
            "rule a: x => w; bar b: => not w; bar c: => not w;",
            "bar a: x => w; rule c: x => w; bar b: => not w;"};
        int[] plain = {REFUTED, OPEN, REFUTED, REFUTED, REFUTED};
        int[] withOver = {OPEN, OPEN, REFUTED, REFUTED, REFUTED};
        for (int i = 0; i < rules.length; i++) {
            StatuteBench bench = lawful("word w 0; word x 0;", "rule o: x => x; " + rules[i]);
            bench.judge(0, 0);
            Due.is(rules[i], bench.status(0, true, 0, 0), plain[i]);
            Due.is("read", Due.read(bench, "over a b;"), 0);
            bench.judge(0, 0);
            Due.is(rules[i] + " over a b", bench.status(0, true, 0, 0), withOver[i]);
        }
    }

    private static void leastThatIsMade() {
        Due.by("nothing is PROVED or REFUTED but by them, step by step; others are OPEN");
        StatuteBench bench = lawful("word w 0; word v 0; word u 0;",
            "rule a: w => w; rule b: v => u; rule c: u => v;");
        Due.is("rings prove nothing", bench.judge(0, 0), 0);
        Due.is("OPEN ones", bench.count(11), 3);
        Due.is("REFUTED ones", bench.count(10), 3);
        bench.testify(2, true, 0, 0, 0, 1, 3);
        Due.is("with a FACT in a ring", bench.judge(0, 0), 2);
        Due.is("OPEN ones then", bench.count(11), 1);
        // A step for each of the 25 LITERALS of a WORD, of which each has one RULE's INSTANCE to wait for.
        StatuteBench chain = lawful("person a; person b; person c; person d; person e; word w 2; word v 0; sum z;",
            "rule q: w(X, e), if Y.0 == X.0 + 1 => w(Y, a); rule r: w(X, Y), if Z.0 == Y.0 + 1 => w(X, Z); "
            + "rule s: => w(a, a); rule t: w(e, e) => v; bar u: v => w(a, a); take y: v => z(a) + 3;");
        for (int person = 0; person < 5; person++) {
            chain.number(person, 0, person);
        }
        Due.is("a chain of 26", chain.judge(0, 0), 26);
        Due.is("its end", chain.status(1, true, 0, 0), PROVED);
        Due.is("none is OPEN", chain.count(11), 0);
        Due.is("APPLICABLE by it", chain.count(12), 4 + 20 + 1 + 1 + 1 + 1);
        Due.is("a SUM by it", chain.sum(0, 0, 0), 3);
        StatuteBench nothing = new StatuteBench();
        Due.is("no LITERALS at all", nothing.judge(0, 0), 0);
        Due.is("REFUTED ones of none", nothing.count(10), 0);
        StringBuilder words = new StringBuilder("person a; person b; person c; person d; person e; ");
        for (int i = 0; i < 12; i++) {
            words.append("word w").append(i).append(" 2; ");
        }
        StatuteBench most = Due.bench(words.toString());
        Due.is("the most LITERALS", most.judge(0, 0), 0);
        Due.is("are REFUTED", most.count(10), 600);
        Due.is("the last one", most.status(11, false, 4, 4), REFUTED);
    }

    private static void firstReasons() {
        Due.by("WHY of a PROVED one: a FACT, or the first APPLICABLE INSTANCE of a rule for it");
        StatuteBench bench = lawful("person a; person b; word w 0; word v 1; word u 2;",
            "bar c: => w; rule d: if 1 < 0 => w; rule r: u(Y, X) => w; rule q: => w;");
        bench.judge(0, 0);
        Due.is("the last RULE", bench.why(0, true, 0, 0, 1), 3);
        Due.is("no VAR", bench.why(0, true, 0, 0, 2), -1);
        bench.testify(2, true, 1, 1, 0, 1, 3);
        bench.judge(0, 0);
        Due.is("the last INSTANCE of a RULE ahead of it", bench.why(0, true, 0, 0, 1), 2);
        Due.is("Y", bench.why(0, true, 0, 0, 2), 1);
        Due.is("X", bench.why(0, true, 0, 0, 3), 1);
        bench.testify(2, true, 1, 0, 0, 1, 3);
        bench.judge(0, 0);
        Due.is("Y of the one ahead", bench.why(0, true, 0, 0, 2), 1);
        Due.is("X of the one ahead", bench.why(0, true, 0, 0, 3), 0);
        bench.testify(2, true, 0, 1, 0, 1, 3);
        bench.judge(0, 0);
        Due.is("Y goes first: Y", bench.why(0, true, 0, 0, 2), 0);
        Due.is("Y goes first: X", bench.why(0, true, 0, 0, 3), 1);
        Due.is("a third VAR", bench.why(0, true, 0, 0, 4), -1);
        bench.testify(0, true, 0, 0, 0, 1, 3);
        bench.judge(0, 0);
        Due.is("a FACT", bench.why(0, true, 0, 0, 0), 0);
        Due.is("no RULE of a FACT", bench.why(0, true, 0, 0, 1), -1);
    }

    private static void reasonsOfRefuted() {
        Due.by("Of a REFUTED one: a FACT (of the opposite), "
            + "or the first INSTANCE against it as the last words tell, or nothing");
        StatuteBench bench = lawful("person a; person b; word w 0; word v 1;",
            "bar b: v(X) => not w; rule c: => not w; rule a: => w;");
        Due.is("read", Due.read(bench, "over a b;"), 0);
        bench.testify(1, true, 1, 0, 0, 1, 3);
        bench.judge(0, 0);
        Due.is("by the first that none is above", bench.why(0, true, 0, 0, 1), 1);
        StatuteBench discards = lawful("person a; person b; word w 0; word v 1;",
            "bar b: v(X) => not w; rule c: => not w; rule a: v(a) => w;");
        Due.is("read", Due.read(discards, "over a b;"), 0);
        discards.testify(1, true, 1, 0, 0, 1, 3);
        discards.judge(0, 0);
        Due.is("by the first of all, if what is above is discarded", discards.why(0, true, 0, 0, 1), 0);
        Due.is("its PERSON", discards.why(0, true, 0, 0, 2), 1);
        discards.testify(0, false, 0, 0, 0, 1, 3);
        discards.judge(0, 0);
        Due.is("by a FACT", discards.why(0, true, 0, 0, 0), 0);
        Due.is("by no RULE then", discards.why(0, true, 0, 0, 1), -1);
        StatuteBench nothing = lawful("word w 0; word v 0;", "rule a: v => w; bar b: v => not w;");
        nothing.judge(0, 0);
        Due.is("by nothing", nothing.why(0, true, 0, 0, 0), 2);
        Due.is("by no RULE", nothing.why(0, true, 0, 0, 1), -1);
        Due.is("with no PERSON", nothing.why(0, true, 0, 0, 2), -1);
    }

    private static void sumIs(String takes, long upper, long lower, long instances) {
        StatuteBench bench = lawful("person p; sum s;", takes);
        bench.number(0, 0, 999999);
        bench.judge(0, 0);
        Due.is("upper of [" + takes + "]", bench.sum(0, 0, 0), upper);
        Due.is("lower of [" + takes + "]", bench.sum(0, 0, 1), lower);
        Due.is("INSTANCES of [" + takes + "]", bench.sum(0, 0, 2), instances);
        Due.is("BROKEN of [" + takes + "]", bench.sum(0, 0, 3), lower == 0 ? 1 : 0);
    }

    private static void sumsOfNothing() {
        Due.by("the AMOUNT (0 at first) .. the FACTOR (1 at first)");
        sumIs("", 0, 1, 0);
        sumIs("take t: if 1 < 0 => s(p) + 1;", 0, 1, 0);
        sumIs("take t: => s(p) + 5;", 5, 1, 1);
        sumIs("take t: => s(p) * 5;", 0, 1, 1);
        sumIs("take t: => s(p) most 5;", 0, 1, 1);
        sumIs("take t: => s(p) least -5;", 0, 1, 1);
        sumIs("take t: => s(p) + 0;", 0, 1, 1);
    }

    private static void amountsAndFactors() {
        Due.by("by the APPLICABLE INSTANCES of takes for it, in order .. Behind all: AMOUNT * FACTOR");
        sumIs("take t: => s(p) * 2; take u: => s(p) + 3; take v: => s(p) * 1/4; take x: => s(p) + 1;", 2, 1, 4);
        sumIs("take t: => s(p) + 3; take u: => s(p) * 0;", 0, 1, 2);
        sumIs("take t: => s(p) + 2/3; take u: => s(p) * -3/4;", -1, 2, 2);
        // The order tells which sums are worked out, and so whether one breaks.
        String most = "100000 * 10000";
        sumIs("take t: => s(p) + " + most + "; take u: => s(p) + -1; take v: => s(p) + 1;", 1000000000, 1, 3);
        sumIs("take t: => s(p) + " + most + "; take u: => s(p) + 1; take v: => s(p) + -1;", 0, 0, 3);
        sumIs("take t: => s(p) * " + most + "; take u: => s(p) * 1/2; take v: => s(p) * 2;", 0, 1, 3);
        sumIs("take t: => s(p) * " + most + "; take u: => s(p) * 2; take v: => s(p) * 1/2;", 0, 0, 3);
        StatuteBench others = lawful("person p; person q; sum s; sum z;",
            "take t: => s(p) + 1; take u: => s(q) + 2; take v: => z(X) + 3; take x: other X Y => z(Y) * 2;");
        others.judge(0, 0);
        int[][] due = {{1, 2}, {6, 6}};
        for (int s = 0; s < 2; s++) {
            for (int person = 0; person < 2; person++) {
                Due.is("SUM " + s + " of " + person, others.sum(s, person, 0), due[s][person]);
            }
        }
    }

    private static void eachSumByItself() {
        Due.by("SUMS of a PERSON: by the APPLICABLE INSTANCES of takes for it");
        StatuteBench bench = lawful("person p; person q; sum s; sum z;",
            "take a: => s(p) + 5; take b: => s(p) * 3; take c: => s(p) most 7; take d: => s(p) least 6; "
            + "take e: => s(q) + 20; take f: => z(p) + -20; take g: => z(q) + 100000 * 100000; take h: => z(q) * 0;");
        bench.judge(0, 0);
        long[][] due = {{7, 1, 4, 0}, {20, 1, 1, 0}, {-20, 1, 1, 0}, {0, 0, 2, 1}};
        for (int i = 0; i < 4; i++) {
            for (int what = 0; what <= 3; what++) {
                Due.is("sum(" + i / 2 + ", " + i % 2 + ", " + what + ")", bench.sum(i / 2, i % 2, what), due[i][what]);
            }
        }
        // A SUM that was BROKEN, or had INSTANCES, once, need not be so again.
        StatuteBench again = Due.bench("person p; sum s; law l rank 0 from 0 until 5; "
            + "take a: => s(p) + 100000 * 100000; take b: => s(p) most 1; end "
            + "law k rank 0 from 4; take c: => s(p) + 2; end");
        int[][] days = {{3, 0, 0, 2, 1}, {4, 0, 0, 3, 1}, {5, 2, 1, 1, 0}};
        for (int[] day : days) {
            again.judge(0, day[0]);
            for (int what = 0; what <= 3; what++) {
                Due.is("sum(0, 0, " + what + ") on " + day[0], again.sum(0, 0, what), day[1 + what]);
            }
        }
    }

    private static void manyAndDeepFormulas() {
        Due.by("E: ['-'] PART { ('+' | '-') PART } (in the most RULES, and within the most brackets)");
        StringBuilder takes = new StringBuilder();
        for (int i = 0; i < 30; i++) {
            takes.append("take t").append(i).append(": if 1 + 1 == 2 => s(p) + ").append(i).append(" * 2 - 1/2; ");
        }
        StatuteBench bench = lawful("person p; sum s;", takes.toString());
        bench.judge(0, 0);
        Due.is("a SUM of 30", bench.sum(0, 0, 0), 29 * 30 - 15);
        Due.is("INSTANCES", bench.sum(0, 0, 2), 30);
        holds("1 + 2 * (".repeat(8) + "1 + 2 * 3" + ")".repeat(8) + " == 2047", true);
        holds("1 - 1 * (".repeat(8) + "-1 * 2 - 1" + ")".repeat(8) + " == -3", true);
        holds("(".repeat(8) + "-1" + ")".repeat(8) + " == -1", true);
    }

    private static void mostAndLeast() {
        Due.by("then, if it is above the least E of most, that; then, if it is below the greatest E of least, that");
        String five = "take t: => s(p) + 5; ";
        sumIs(five + "take u: => s(p) most 6;", 5, 1, 2);
        sumIs(five + "take u: => s(p) most 5;", 5, 1, 2);
        sumIs(five + "take u: => s(p) most 4;", 4, 1, 2);
        sumIs(five + "take u: => s(p) most 9/2;", 9, 2, 2);
        sumIs(five + "take u: => s(p) least 4;", 5, 1, 2);
        sumIs(five + "take u: => s(p) least 5;", 5, 1, 2);
        sumIs(five + "take u: => s(p) least 6;", 6, 1, 2);
        sumIs(five + "take u: => s(p) least 11/2;", 11, 2, 2);
        sumIs(five + "take u: => s(p) most 4; take v: => s(p) most 3; take x: => s(p) most 7;", 3, 1, 4);
        sumIs(five + "take u: => s(p) least 6; take v: => s(p) least 7; take x: => s(p) least 3;", 7, 1, 4);
        sumIs(five + "take u: => s(p) most -1/2; take v: => s(p) most -1/3;", -1, 2, 3);
        sumIs("take u: => s(p) least 1/3; take v: => s(p) least 1/2;", 1, 2, 2);
        // Those of least come last, also where they are above those of most.
        sumIs(five + "take u: => s(p) most 3; take v: => s(p) least 4;", 4, 1, 3);
        sumIs(five + "take v: => s(p) least 9; take u: => s(p) most 3;", 9, 1, 3);
        sumIs("take u: => s(p) most 3; take v: => s(p) least 1; take t: => s(p) + 2; take x: => s(p) * 2;", 3, 1, 4);
    }

    private static void brokenSums() {
        Due.by("with any BREAK the SUM is BROKEN");
        String most = "100000 * 10000";
        sumIs("take t: => s(p) + " + most + ";", 1000000000, 1, 1);
        sumIs("take t: => s(p) + " + most + " + 1;", 0, 0, 1);
        sumIs("take t: => s(p) + -" + most + ";", -1000000000, 1, 1);
        sumIs("take t: => s(p) + -" + most + " - 1;", 0, 0, 1);
        sumIs("take t: => s(p) + 1/100000 * 1/10000;", 1, 1000000000, 1);
        sumIs("take t: => s(p) + 1/100000 * 1/10001;", 0, 0, 1);
        sumIs("take t: => s(p) + 1/1001 * 1/999001;", 0, 0, 1);
        sumIs("take t: => s(p) + 1/1001; take u: => s(p) * 1/999001;", 0, 0, 2);
        sumIs("take t: => s(p) + p.0 * 1000; take u: => s(p) + 1000;", 1000000000, 1, 2);
        sumIs("take t: => s(p) + p.0 * 1000; take u: => s(p) + 1001;", 0, 0, 2);
        sumIs("take t: => s(p) + 100000; take u: => s(p) * 10000;", 1000000000, 1, 2);
        sumIs("take t: => s(p) + 100000; take u: => s(p) * 10001;", 0, 0, 2);
        sumIs("take t: => s(p) + 1/100000; take u: => s(p) * 1/10000;", 1, 1000000000, 2);
        sumIs("take t: => s(p) + 1/100000; take u: => s(p) * 1/10001;", 0, 0, 2);
        sumIs("take t: => s(p) * 100000; take u: => s(p) * 10000;", 0, 1, 2);
        sumIs("take t: => s(p) * 100000; take u: => s(p) * 10001;", 0, 0, 2);
        sumIs("take t: => s(p) + 1; take u: => s(p) most " + most + ";", 1, 1, 2);
        sumIs("take t: => s(p) + 1; take u: => s(p) most " + most + " + 1;", 0, 0, 2);
        sumIs("take t: => s(p) + 1; take u: => s(p) least -" + most + ";", 1, 1, 2);
        sumIs("take t: => s(p) + 1; take u: => s(p) least -" + most + " - 1;", 0, 0, 2);
        sumIs("take t: => s(p) + 1; take u: => s(p) * (" + most + " + 1) * 0;", 0, 0, 2);
        sumIs("take t: => s(p) + " + most + " * 2; take u: => s(p) most 1; take v: => s(p) least 1;", 0, 0, 3);
        sumIs("take t: => s(p) least " + most + " + 1; take u: => s(p) least 1;", 0, 0, 2);
        sumIs("take t: if " + most + " + 1 != 0 => s(p) + 1;", 0, 1, 0);
        sumIs("take t: if 1 < 0 => s(p) + " + most + " + 1;", 0, 1, 0);
    }

    private static void linesOfLiterals() {
        Due.by("for each PROVED LITERAL, by WORDS, then PERSONS, what is so ahead of not, a line");
        StatuteBench bench = lawful("person a; person b; word u 2; word w 0; word v 1; word x 0;",
            "rule r: => v(X); rule q: other X Y => not u(Y, X); rule o: x => x;");
        Due.is("LITERALS", bench.judge(0, 0), 4);
        Due.is("lines", Due.judgment(bench), "not u(a,b) by q\nnot u(b,a) by q\nv(a) by r\nv(b) by r\n");
        bench.testify(1, false, 0, 0, 0, 1, 3);
        bench.testify(0, true, 1, 0, 0, 1, 3);
        bench.testify(3, true, 0, 0, 0, 1, 3);
        bench.judge(0, 0);
        Due.is("lines with FACTS", Due.judgment(bench),
            "not u(a,b) by q\nu(b,a) fact\nnot w fact\nv(a) by r\nv(b) by r\nx fact\n");
        StatuteBench ring = Due.bench("word w 0; law l rank 1 from 0; rule p: => w; rule q: => w; rule x: => not w; "
            + "rule y: => not w; end over p x; over x q; over q y; over y p;");
        ring.judge(0, 0);
        Due.is("a LITERAL and its opposite", Due.judgment(ring), "w by p\nnot w by x\n");
        StatuteBench nothing = lawful("person a; word w 1; sum s;", "rule r: w(X) => w(X);");
        nothing.judge(0, 0);
        Due.is("nothing PROVED", Due.judgment(nothing), "");
        StatuteBench names = Due.bench("person abcdefghij; word z 2; word klmnopqrst 1; law l rank 0 from 0; "
            + "rule u: => z(X, X); rule uvwxyz0123: => not klmnopqrst(X); rule other4: => z(X, X); end");
        names.judge(0, 0);
        Due.is("the shortest and the longest NAMES", Due.judgment(names),
            "z(abcdefghij,abcdefghij) by u\nnot klmnopqrst(abcdefghij) by uvwxyz0123\n");
    }

    private static void linesOfSums() {
        Due.by("for each SUM, each PERSON, whose AMOUNT had an INSTANCE: .. "
            + "upper / lower part (a whole number alone), or \"broken\", and byte 10");
        String[] parts = {"0", "7", "-7", "1/2", "-1/2", "4/2", "0/3", "100000 * 10000", "-100000 * 10000",
            "1/100000 * 1/10000",
            "100000 * 10000 + 1", "999999/999998", "10/1", "-999999/7"};
        String[] due = {"0", "7", "-7", "1/2", "-1/2", "2", "0", "1000000000", "-1000000000", "1/1000000000",
            "broken", "999999/999998", "10", "-142857"};
        for (int i = 0; i < parts.length; i++) {
            StatuteBench bench = lawful("person p; sum s;", "take t: => s(p) + " + parts[i] + ";");
            bench.judge(0, 0);
            Due.is("the line of " + parts[i], Due.judgment(bench), "s(p) " + due[i] + "\n");
        }
        StatuteBench bench = lawful("person p; person q; sum z; sum s; sum n;",
            "take t: => s(X) + 1; take u: => z(q) + 1/3; take v: if 1 < 0 => n(p) + 1;");
        bench.judge(0, 0);
        Due.is("by SUMS, then PERSONS", Due.judgment(bench), "z(q) 1/3\ns(p) 1\ns(q) 1\n");
    }
}
