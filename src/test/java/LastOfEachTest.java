/** The last PERSON, WORD, SUM, LAW, RULE, COND, VAR and over that there is room for takes part like the first. */
public final class LastOfEachTest {
    private static final int REFUTED = 0;
    private static final int PROVED = 1;
    private static final int OPEN = 2;
    private static final String PERSONS = "person a; person b; person c; person d; person e; ";

    public static void main(String[] args) {
        lastPersonByName();
        lastLiteral();
        linesOfAllSums();
        lastRuleAgainst();
        lastRuleFor();
        lastBarAndTake();
        lastCondition();
        leftConditions();
        lastVariable();
        lastOver();
        lastLaw();
        Due.end();
    }

    private static StatuteBench judged(String text) {
        StatuteBench bench = Due.bench(text);
        bench.judge(0, 0);
        return bench;
    }

    private static String many(int times, String form) {
        StringBuilder all = new StringBuilder();
        for (int i = 0; i < times; i++) {
            all.append(form.replace("#", String.valueOf(i)));
        }
        return all.toString();
    }

    private static void lastPersonByName() {
        Due.by("A NAME as a TERM: a PERSON");
        String[] names = {"a", "b", "c", "d", "e"};
        for (int p = 0; p < 5; p++) {
            String name = names[p];
            // The rule with three VARS comes last, so that what they had at its end can't help.
            StatuteBench bench = Due.bench(PERSONS + "word w 1; word v 2; word u 1; sum s; law l rank 0 from 0; "
                + ("rule r: w(#) => v(#, a); rule q: v(#, a), if 7 <= #.3 => v(b, #); rule o: same X # => u(X); "
                + "rule n: other # X => not u(X); take t: => s(#) + #.3; rule m: w(X), w(Y), w(Z) => w(X); end")
                .replace("#", name));
            bench.testify(0, true, p, 0, 0, 1, 3);
            bench.number(p, 3, 7 + p);
            bench.judge(0, 0);
            for (int other = 0; other < 5; other++) {
                boolean it = other == p;
                Due.is(name + ": v first", bench.status(1, true, other, 0), it || p == 0 && other == 1 ? 1 : 0);
                Due.is(name + ": v second", bench.status(1, true, 1, other), it || p == 1 && other == 0 ? 1 : 0);
                Due.is(name + ": same", bench.status(2, true, other, 0), it ? PROVED : REFUTED);
                Due.is(name + ": other", bench.status(2, false, other, 0), it ? REFUTED : PROVED);
                Due.is(name + ": sum", bench.sum(0, other, 0), it ? 7 + p : 0);
                Due.is(name + ": takes", bench.sum(0, other, 2), it ? 1 : 0);
            }
        }
    }

    private static void lastLiteral() {
        Due.by("WHY of a PROVED one: .. the first APPLICABLE INSTANCE of a rule for it");
        StatuteBench bench = judged(PERSONS + many(12, "word w#z 2; ") + "law l rank 0 from 0; "
            + "rule r: => w0z(a, a); rule q: same X e => not w11z(X, e); end");
        int[][] due = {{0, 1, 0, 1, 0, -1}, {11, 0, 4, 1, 1, 4}};
        for (int[] d : due) {
            boolean so = d[1] == 1;
            Due.is("WORD " + d[0], bench.status(d[0], so, d[2], d[2]), PROVED);
            Due.is("its opposite", bench.status(d[0], !so, d[2], d[2]), REFUTED);
            for (boolean side : new boolean[] {so, !so}) {
                Due.is("why", bench.why(d[0], side, d[2], d[2], 0), d[3]);
                Due.is("by which RULE", bench.why(d[0], side, d[2], d[2], 1), d[4]);
                Due.is("its VAR", bench.why(d[0], side, d[2], d[2], 2), d[5]);
            }
        }
        Due.is("PROVED", bench.count(9), 2);
        Due.is("REFUTED", bench.count(10), 598);
        Due.is("the judgment", Due.judgment(bench), "w0z(a,a) by r\nnot w11z(e,e) by q\n");
        bench.testify(11, true, 4, 4, 0, 1, 3);
        bench.judge(0, 0);
        Due.is("by a FACT", Due.judgment(bench), "w0z(a,a) by r\nw11z(e,e) fact\n");
        Due.is("why not", bench.why(11, false, 4, 4, 0), 0);
    }

    private static void linesOfAllSums() {
        Due.by("Then for each SUM, each PERSON");
        StatuteBench bench = Due.bench(PERSONS + many(4, "sum s#; ") + "law l rank 0 from 0; "
            + many(4, "take t#: => s#(X) + X.# * 1/2; ") + "end");
        StringBuilder due = new StringBuilder();
        for (int s = 0; s < 4; s++) {
            for (int p = 0; p < 5; p++) {
                bench.number(p, s, 2 * (10 * s + p));
                due.append('s').append(s).append('(').append((char) ('a' + p)).append(") ");
                due.append(10 * s + p).append('\n');
            }
        }
        bench.judge(0, 0);
        Due.is("twenty lines", Due.judgment(bench), due.toString());
        Due.is("INSTANCES", bench.count(12), 20);
        Due.is("the last SUM of the last PERSON", bench.sum(3, 4, 0), 34);
    }

    /** 29 rules for one word ahead of the last one, which is told in a law of its own. */
    private static StatuteBench thirty(int rankOfLast, String last) {
        return judged("person a; word w 0; word v 0; sum s; law l rank 1 from 0; " + many(29, "rule r#: => w; ")
            + "end law m rank " + rankOfLast + " from 0; " + last + " end");
    }

    private static void lastRuleAgainst() {
        Due.by("each INSTANCE of a rule or bar for its opposite is DISCARDED, or .. ABOVE that one");
        StatuteBench above = thirty(2, "rule z: => not w;");
        Due.is("the last RULE above all: w", above.status(0, true, 0, 0), REFUTED);
        Due.is("not w", above.status(0, false, 0, 0), PROVED);
        Due.is("why", above.why(0, true, 0, 0, 1), 29);
        Due.is("why not", above.why(0, false, 0, 0, 1), 29);
        Due.is("the judgment", Due.judgment(above), "not w by z\n");
        StatuteBench alike = thirty(1, "rule z: => not w;");
        Due.is("alike: w", alike.status(0, true, 0, 0), REFUTED);
        Due.is("alike: not w", alike.status(0, false, 0, 0), REFUTED);
        Due.is("alike: why", alike.why(0, true, 0, 0, 1), 29);
        Due.is("alike: why not", alike.why(0, false, 0, 0, 1), 0);
        StatuteBench below = thirty(0, "rule z: => not w;");
        Due.is("below all: w", below.status(0, true, 0, 0), PROVED);
        Due.is("below all: not w", below.status(0, false, 0, 0), REFUTED);
        StatuteBench discarded = thirty(2, "rule z: v => not w;");
        Due.is("v is REFUTED: w", discarded.status(0, true, 0, 0), PROVED);
        StatuteBench waits = thirty(2, "rule z: not w => not w;");
        Due.is("by itself: w", waits.status(0, true, 0, 0), OPEN);
        Due.is("by itself: not w", waits.status(0, false, 0, 0), OPEN);
    }

    private static void lastRuleFor() {
        Due.by("an APPLICABLE INSTANCE of a rule for it is ABOVE that one");
        String bars = "word w 0; law l rank 5 from 0; " + many(29, "bar b#: => not w; ") + "end ";
        StatuteBench above = judged(bars + "law m rank 6 from 0; rule z: => w; end");
        Due.is("the last RULE above all bars", above.status(0, true, 0, 0), PROVED);
        Due.is("by it", above.why(0, true, 0, 0, 1), 29);
        Due.is("the judgment", Due.judgment(above), "w by z\n");
        StatuteBench below = judged(bars + "law m rank 5 from 0; rule z: => w; end");
        Due.is("not above the bars", below.status(0, true, 0, 0), REFUTED);
        Due.is("by the first bar", below.why(0, true, 0, 0, 1), 0);
        Due.is("INSTANCES", below.count(12), 30);
    }

    private static void lastBarAndTake() {
        Due.by("an INSTANCE of a rule or bar for its opposite is APPLICABLE");
        StatuteBench bar = thirty(1, "bar z: => not w;");
        Due.is("w", bar.status(0, true, 0, 0), REFUTED);
        Due.is("why", bar.why(0, true, 0, 0, 1), 29);
        Due.is("not w", bar.status(0, false, 0, 0), REFUTED);
        StatuteBench take = thirty(9, "take z: w => s(a) + 2;");
        Due.is("a take is against nothing", take.status(0, true, 0, 0), PROVED);
        Due.is("its SUM", take.sum(0, 0, 0), 2);
        Due.is("the judgment", Due.judgment(take), "w by r0\ns(a) 2\n");
    }

    private static void lastCondition() {
        Due.by("its CONDS 'same', 'other', 'if' hold, its LITS are PROVED");
        String[] kinds = {"yes", "same a a", "other a b", "if 1 < 2", "not no", "if a.0 == 0"};
        String[] fails = {"no", "same a b", "other b b", "if 2 <= 1", "not yes", "if a.0 != 0"};
        String head = "person a; person b; word yes 0; word no 0; word w 0; sum s; law l rank 0 from 0; "
            + "rule y: => yes; rule n: => not no; ";
        for (int failing = -1; failing < 6; failing++) {
            StringBuilder conditions = new StringBuilder();
            for (int i = 0; i < 6; i++) {
                conditions.append(i == 0 ? "" : ", ").append(i == failing ? fails[i] : kinds[i]);
            }
            StatuteBench bench = judged(head + "rule r: " + conditions + " => w; take t: " + conditions
                + " => s(a) + 1; end");
            int due = failing < 0 ? 1 : 0;
            Due.is("CONDS", bench.rule(2, 2), 6);
            Due.is("w with " + conditions, bench.status(2, true, 0, 0), due);
            Due.is("s with " + conditions, bench.sum(0, 0, 0), due);
            Due.is("INSTANCES with " + conditions, bench.count(12), 2 + 2 * due);
        }
        for (String sixth : new String[] {"v", "not v"}) {
            StatuteBench open = judged("word v 0; word w 0; law l rank 0 from 0; rule c: v => v; "
                + "rule d: not v => not v; rule r: " + "if 0 < 1, ".repeat(5) + sixth + " => w; end");
            Due.is("the sixth COND is OPEN: " + sixth, open.status(1, true, 0, 0), OPEN);
        }
    }

    private static void leftConditions() {
        Due.by("A text with a FAULT changes nothing");
        String head = "person a; person b; word w 0; word v 1; sum s; ";
        String law = "law l rank 0 from 0; ";
        String[] dropped = {
            "rule r: if 1 < 0, w, not w, same a b, v(X), if X.0 != Y.0 => v(Z);",
            "take r: w, w, if 2 < 1, other Y Y, w, w => s(Y) + 100 * (2 + 3);",
            "bar r: not w, not v(a), v(X), v(Y), v(Z), if 3 == 4 => not w;"};
        String[] kept = {"rule r: => w; take t: => s(a) + 5;", "rule r: not v(a) => w; take t: w => s(a) + 5;",
            "rule r: if 1 < 2 => w; take t: same X a => s(X) + 5;",
            "rule r: same a a, other a b, not v(X) => w; take t: => s(X) most 5; take u: => s(a) + 6;"};
        for (String bad : dropped) {
            for (String good : kept) {
                StatuteBench bench = Due.bench(head);
                String twice = bad + " " + bad.replace(" r:", " t:");
                Due.is("a RULE told by none", Due.read(bench, law + twice + " end over no r;"), 4);
                Due.is("read of " + good, Due.read(bench, law + good + " end"), 0);
                bench.testify(1, false, 0, 0, 0, 1, 3);
                bench.testify(1, false, 1, 0, 0, 1, 3);
                bench.judge(0, 0);
                Due.is("w by " + good + " behind " + bad, bench.why(0, true, 0, 0, 1), 0);
                Due.is("s by " + good + " behind " + bad, bench.sum(0, 0, 0), 5);
            }
        }
    }

    private static void lastVariable() {
        Due.by("2 .. 4: the PERSON of its first, second, third VAR");
        StatuteBench bench = Due.bench(PERSONS + "word w 2; word v 1; sum s; law l rank 0 from 0; "
            + "rule r: w(Z, Y), w(Y, X), if Z.0 < Y.0, if Y.0 < X.0 => v(X); "
            + "take t: v(X), other X Y, other Y Z, other X Z, if X.0 == Y.0 + Z.0 => s(Z) + Y.0; end");
        for (int p = 0; p < 5; p++) {
            bench.number(p, 0, p);
        }
        bench.testify(0, true, 2, 3, 0, 1, 3);
        bench.testify(0, true, 3, 4, 0, 1, 3);
        bench.judge(0, 0);
        Due.is("v(e)", bench.status(1, true, 4, 0), PROVED);
        int[] due = {1, 0, 2, 3, 4, -1};
        for (int what = 0; what < due.length; what++) {
            Due.is("why, what " + what, bench.why(1, true, 4, 0, what), due[what]);
        }
        // 4 is 0 + 4, 1 + 3, 3 + 1: but X is neither Y nor Z.
        long[] sums = {0, 3, 0, 1, 0};
        for (int p = 0; p < 5; p++) {
            Due.is("s of PERSON " + p, bench.sum(0, p, 0), sums[p]);
        }
        Due.is("INSTANCES", bench.count(12), 3);
    }

    private static void lastOver() {
        Due.by("if an over that tells one of both ahead of the other is there, the first one such .. decides");
        String rules = "word w 0; law l rank 1 from 0; rule x: => w; rule y: => not w; rule z: => w; end ";
        StatuteBench last = judged(rules + "over x z; ".repeat(19) + "over y x;");
        Due.is("overs", last.count(5), 20);
        Due.is("the twentieth decides", last.above(1, 0), 1);
        Due.is("the other way", last.above(0, 1), 0);
        Due.is("w", last.status(0, true, 0, 0), REFUTED);
        Due.is("not w, for z", last.status(0, false, 0, 0), REFUTED);
        StatuteBench late = judged(rules + "over x z; ".repeat(18) + "over x y; over y x;");
        Due.is("the nineteenth decides", late.above(0, 1), 1);
        Due.is("w by the nineteenth", late.status(0, true, 0, 0), PROVED);
    }

    private static void lastLaw() {
        Due.by("else if its LAW's RANK is greater");
        StatuteBench bench = judged("word w 0; " + many(9, "law l# rank # from 0; rule r#: => w; end ")
            + "law m rank 9 from 0; rule z: => not w; end");
        Due.is("the LAW of the last RULE", bench.rule(9, 0), 9);
        for (int r = 0; r < 9; r++) {
            Due.is("above " + r, bench.above(9, r), 1);
            Due.is(r + " above", bench.above(r, 9), 0);
        }
        Due.is("not w", bench.status(0, false, 0, 0), PROVED);
        Due.is("by the last", bench.why(0, true, 0, 0, 1), 9);
    }
}
