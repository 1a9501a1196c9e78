/** Promises 13 and 14: text and out. */
public final class TextTest {
    public static void main(String[] args) {
        lines();
        sums();
        whatStays();
        longText();
        Due.end();
    }

    private static void lines() {
        StatuteBench bench = Due.bench("person ann; person bob; word owes 2; word fine 0; word late 1; sum due; "
            + "law l rank 0 from 0; rule r1: owes(X, Y) => late(X); rule r2: late(X) => not fine; "
            + "rule r3: late(X), other X Y => not late(Y); take t: late(X) => due(X) + 7/2; end");
        Due.is("nothing is judged", bench.text(), -1);
        Due.is("out(0)", bench.out(0), -1);
        bench.testify(0, true, 1, 0, 0, 9, 3);
        bench.testify(0, false, 0, 0, 0, 9, 3);
        bench.judge(0, 0);
        String due = "not owes(ann,ann) fact\nowes(bob,ann) fact\nnot fine by r2\nnot late(ann) by r3\nlate(bob) by r1\n"
            + "due(bob) 7/2\n";
        Due.is("the judgment", Due.judgment(bench), due);
        Due.is("its length", bench.text(), due.length());
        Due.is("behind its end", bench.out(due.length()), -1);
        Due.is("its last byte", bench.out(due.length() - 1), 10);
        Due.is("out(-1)", bench.out(-1), -1);
        Due.is("out of the greatest int", bench.out(Integer.MAX_VALUE), -1);
        Due.is("out of the least int", bench.out(Integer.MIN_VALUE), -1);
        // What is so stands ahead of not, also where overs in a ring prove both.
        StatuteBench ring = Due.bench("word w 0; law a rank 1 from 0; rule p: => w; rule q: => w; "
            + "rule x: => not w; rule y: => not w; end over p x; over x q; over q y; over y p;");
        ring.judge(0, 0);
        Due.is("both", Due.judgment(ring), "w by p\nnot w by x\n");
        StatuteBench names = Due.bench("person a0b1c2d3e4; word z9 1; law l rank 0 from 0; rule r012345678: => z9(X); end");
        names.judge(0, 0);
        Due.is("digits in names", Due.judgment(names), "z9(a0b1c2d3e4) by r012345678\n");
    }

    private static void sums() {
        StatuteBench bench = Due.bench("person a; person b; person c; sum s; sum q; word w 0; law l rank 0 from 0; "
            + "take t1: => q(c) + -3/6; take t2: => s(b) + 100000 * 100000; take t3: => s(a) + 0; "
            + "take t4: => q(a) least 12; take t5: => q(b) + -100000 * 10000; take t6: if 1 < 0 => s(c) + 1; "
            + "take t7: => s(c) * 2; rule r: => w; end");
        bench.judge(0, 0);
        Due.is("sums", Due.judgment(bench),
            "w by r\ns(a) 0\ns(b) broken\ns(c) 0\nq(a) 12\nq(b) -1000000000\nq(c) -1/2\n");
        StatuteBench parts = Due.bench("person a; sum s; law l rank 0 from 0; "
            + "take t: => s(a) + 999999/1000 * 1/1000; take u: => s(a) + 10; end");
        parts.judge(0, 0);
        Due.is("both parts", Due.judgment(parts), "s(a) 10999999/1000000\n");
        for (int value : new int[] {0, 1, 9, 10, 90, 99, 100, 909000, 999999, -1, -9, -10, -999999}) {
            StatuteBench whole = Due.bench("person a; sum s; law l rank 0 from 0; take t: => s(a) + a.0; end");
            whole.number(0, 0, value);
            whole.judge(0, 0);
            Due.is("a whole number", Due.judgment(whole), "s(a) " + value + "\n");
        }
    }

    private static void whatStays() {
        StatuteBench bench = Due.bench("word w 0; word v 0; law l rank 0 from 0 until 5; rule r: => w; end");
        bench.judge(0, 9);
        Due.is("nothing is proved", bench.text(), 0);
        Due.is("no byte", bench.out(0), -1);
        bench.judge(0, 0);
        Due.is("not written yet", bench.out(0), -1);
        Due.is("text()", bench.text(), 7);
        Due.is("out(0)", bench.out(0), 'w');
        bench.judge(0, 9);
        Due.is("OUT stays", bench.out(0), 'w');
        Due.is("OUT's last byte stays", bench.out(6), 10);
        Due.is("written again", bench.text(), 0);
        Due.is("OUT is empty", bench.out(0), -1);
        bench.judge(0, 0);
        bench.text();
        bench.testify(1, true, 0, 0, 0, 9, 9);
        Due.is("a wrong day", bench.judge(0, -1), -1);
        Due.is("as it was judged", bench.text(), 7);
        bench.judge(0, 0);
        Due.is("as it is judged", Due.judgment(bench), "w by r\nv fact\n");
        Due.feed(bench, "person a;");
        Due.is("the tape is another row", bench.out(0), 'w');
    }

    /** 300 literals are proved: the first 4,000 bytes are kept, all are counted. */
    private static void longText() {
        StringBuilder text = new StringBuilder("person aaaaaaaaaa; person bbbbbbbbbb; person cccccccccc; "
            + "person dddddddddd; person eeeeeeeeee; ");
        for (char c = 'a'; c < 'm'; c++) {
            text.append("word wwwwwwwww").append(c).append(" 2; ");
        }
        text.append("law l rank 0 from 0; ");
        for (char c = 'a'; c < 'm'; c++) {
            text.append("rule rrrrrrrrr").append(c).append(": => not wwwwwwwww").append(c).append("(X, Y); ");
        }
        StatuteBench bench = Due.bench(text + "end");
        Due.is("all", bench.judge(0, 0), 300);
        int line = "not wwwwwwwwwa(aaaaaaaaaa,aaaaaaaaaa) by rrrrrrrrra\n".length();
        Due.is("all bytes", bench.text(), 300 * line);
        Due.is("the first byte of line 3", bench.out(2 * line), 'n');
        Due.is("the last byte of line 3", bench.out(3 * line - 1), 10);
        String kept = Due.judgment(bench);
        Due.is("kept bytes", kept.length(), 4000);
        String last = "not wwwwwwwwwd(aaaaaaaaaa,bbbbbbbbbb) by rrrrrrrrrd\n";
        Due.is("byte 3999", bench.out(3999), last.charAt(3999 % line));
        Due.is("byte 4000", bench.out(4000), -1);
        Due.is("lines kept", kept.chars().filter(c -> c == 10).count(), 4000 / line);
        Due.is("one that is shorter", bench.judge(0, 0), 300);
        Due.is("written again", bench.text(), 300 * line);
        Due.is("byte 0 again", bench.out(0), 'n');
    }
}
