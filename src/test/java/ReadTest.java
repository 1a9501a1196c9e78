/** Promises 4 and 5: read and place. The sign ^ in a text stands ahead of the fault, and is no part of the text. */
public final class ReadTest {
    private static final String ALL = "person ann; person bob; word fine 0; word late 1; word owes 2; sum due; sum tax; ";
    private static final String LAW = "law one rank 1 from 0; ";

    public static void main(String[] args) {
        tokens();
        tells();
        syntaxOfRules();
        syntaxOfFormulas();
        roomForNames();
        roomInRules();
        roomForTokens();
        twice();
        unknown();
        wrong();
        overs();
        whichFaultIsFirst();
        nothingChanges();
        Due.end();
    }

    private static void right(String text) {
        Due.fault(text, 0, -1);
    }

    private static void wrong(String marked, int fault) {
        Due.faultAt("", marked, fault);
    }

    private static void rightRule(String rule) {
        Due.fault(Due.bench(ALL), LAW + rule + " end", 0, -1);
    }

    private static void wrongRule(String marked, int fault) {
        Due.faultAt(ALL, LAW + marked + " end", fault);
    }

    private static void tokens() {
        right("");
        right(" \t\n\r ");
        right("person a;person b;");
        right("person\ta\n;\rperson b ; ");
        right("person abcdefghij;");
        right("person a123456789;");
        right("person persons; word rules 1; sum nots;");
        wrong("person ^abcdefghijk;", 1);
        wrong("person a^Xb;", 1);
        wrong("person ^Aa;", 1);
        wrong("person ^1a;", 1);
        wrong("person ^person;", 1);
        wrong("person ^least;", 1);
        wrong("word a ^1234567;", 1);
        wrong("word a 1^b;", 1);
        wrong("word a ^0000001;", 1);
        right("word a 000001;");
        right("word a 1;");
        wrong("word a1^;", 1);
        wrong("^#", 1);
        wrong("person a;^\u0000", 1);
        wrong("person a;^\u000b", 1);
        wrong("person a;^\u000c", 1);
        wrong("person a^\u00e4;", 1);
        rightRule("rule r:late(X),owes(X,Y)=>late(Y);");
        rightRule("rule r : other X Y , same X X => fine ;");
        rightRule("rule r: other XY=>fine;");
        rightRule("rule r: other Xann=>fine;");
        wrongRule("rule r: other X X ^= > fine;", 1);
        wrongRule("rule r: if 1 ^= 1 => fine;", 1);
        wrongRule("rule r: if 1 ^! 1 => fine;", 1);
        wrongRule("rule r: if 1 ^> 1 => fine;", 1);
        wrongRule("rule r: if 1 < ^= 1 => fine;", 1);
        rightRule("rule r: if 1<=1 => fine;");
        rightRule("rule r: if 1<1 => fine;");
        rightRule("rule r: if 1==1 => fine;");
        rightRule("rule r: if 1!=1 => fine;");
        wrongRule("rule r: if 1==^=>1 => fine;", 1);
        wrongRule("rule r: if 1<=^=>1 => fine;", 1);
    }

    private static void tells() {
        right("person a; word w 0; sum s; law l rank 0 from 0; end");
        right("law l rank 9 from 999998 until 999999; end law m rank 0 from 0; end");
        wrong("person^", 1);
        wrong("person ^;", 1);
        wrong("person a^", 1);
        wrong("person a ^person b;", 1);
        wrong("word w ^;", 1);
        wrong("word ^0;", 1);
        wrong("sum s ^0;", 1);
        wrong("^;", 1);
        wrong("^end", 1);
        wrong("^rule r: => w;", 1);
        wrong("^a", 1);
        wrong("law l ^from 0 rank 0; end", 1);
        wrong("law l rank ^; end", 1);
        wrong("law l rank 0 from 0 ^end", 1);
        wrong("law l rank 0 from 0 until ^; end", 1);
        wrong("law l rank 0 from 0;^", 1);
        wrong("law l rank 0 from 0;  ^", 1);
        wrong("law l rank 0 from 0; ^person a; end", 1);
        wrong("law l rank 0 from 0; ^over a b; end", 1);
        wrong("law l rank 0 from 0; end^;", 1);
        wrong("over a ^;", 1);
        wrong("over ^;", 1);
        wrong("over a b ^c;", 1);
    }

    private static void syntaxOfRules() {
        rightRule("rule r: => fine; bar b: => not fine; take t: => due(ann) + 1;");
        rightRule("rule r: not late(X), not fine, owes(X, ann), same X ann, other X bob, if X.0 < 3 => not late(X);");
        rightRule("take t: late(X) => due(X) * 1/2; take u: => tax(bob) most 3; take v: => tax(X) least X.3;");
        wrongRule("rule ^: => fine;", 1);
        wrongRule("rule r ^=> fine;", 1);
        wrongRule("rule r: fine^;", 1);
        wrongRule("rule r: ^, fine => fine;", 1);
        wrongRule("rule r: fine, ^=> fine;", 1);
        wrongRule("rule r: fine ^fine => fine;", 1);
        wrongRule("rule r: => ^;", 1);
        wrongRule("rule r: => fine ^, fine;", 1);
        wrongRule("rule r: => not ^not fine;", 1);
        wrongRule("rule r: not ^same X Y => fine;", 1);
        wrongRule("rule r: => ^same X Y;", 1);
        wrongRule("rule r: => ^if 1 < 2;", 1);
        wrongRule("rule r: late(^) => fine;", 1);
        wrongRule("rule r: late(X^; => fine;", 1);
        wrongRule("rule r: owes(X,^) => fine;", 1);
        wrongRule("rule r: owes(X,Y^,Z) => fine;", 1);
        wrongRule("rule r: late(^1) => fine;", 1);
        wrongRule("rule r: late(^not) => fine;", 1);
        wrongRule("rule r: same X^, Y => fine;", 1);
        wrongRule("rule r: other X ^=> fine;", 1);
        wrongRule("rule r: ^X => fine;", 1);
        wrongRule("rule r: if 1 ^=> fine;", 1);
        wrongRule("rule r: if 1 + ^== 2 => fine;", 1);
        wrongRule("rule r: if 1 < 2 ^< 3 => fine;", 1);
        wrongRule("rule r: => fine ^+ 1;", 1);
        wrongRule("take t: => due ^+ 1;", 1);
        wrongRule("take t: => ^not due(ann) + 1;", 1);
        wrongRule("take t: => due(ann^, bob) + 1;", 1);
        wrongRule("take t: => due(ann) ^- 1;", 1);
        wrongRule("take t: => due(ann) ^/ 1;", 1);
        wrongRule("take t: => due(ann) ^1;", 1);
        wrongRule("take t: => due(ann)^;", 1);
        wrongRule("take t: => due(ann) most ^;", 1);
        wrongRule("bar t: => fine ^most 1;", 1);
    }

    private static void syntaxOfFormulas() {
        rightRule("take t: => due(ann) + -1 + 2 - 3 * 4/5 * (-6 - 7);");
        rightRule("take t: => due(ann) + ann.0 * X.1 - (Y.2) * ((bob.3));");
        wrongRule("take t: => due(ann) + - ^- 1;", 1);
        wrongRule("take t: => due(ann) + 1 - ^- 1;", 1);
        wrongRule("take t: => due(ann) + 1 * ^- 1;", 1);
        wrongRule("take t: => due(ann) + ^+ 1;", 1);
        wrongRule("take t: => due(ann) + 1 ^2;", 1);
        wrongRule("take t: => due(ann) + 1 +^;", 1);
        wrongRule("take t: => due(ann) + 1/2^/3;", 1);
        wrongRule("take t: => due(ann) + 1/^X;", 1);
        wrongRule("take t: => due(ann) + 1/^(2);", 1);
        wrongRule("take t: => due(ann) + (1)^/2;", 1);
        wrongRule("take t: => due(ann) + ann.0^/2;", 1);
        wrongRule("take t: => due(ann) + ann^;", 1);
        wrongRule("take t: => due(ann) + ann.^X;", 1);
        wrongRule("take t: => due(ann) + (^);", 1);
        wrongRule("take t: => due(ann) + (1^;", 1);
        wrongRule("take t: => due(ann) + 1^);", 1);
        wrongRule("take t: => due(ann) + 1^.0;", 1);
        wrongRule("rule r: if (1 ^< 2) => fine;", 1);
    }

    private static void roomForNames() {
        wrong("person a; person b; person c; person d; person e; person ^f;", 2);
        Due.faultAt("person a; person b; person c; person d;", "person e; person ^f x", 2);
        Due.faultAt("person a; person b; person c; person d; person e;", "person ^;", 1);
        StringBuilder words = new StringBuilder();
        for (int i = 0; i < 12; i++) {
            words.append("word w").append(i).append(" 1; ");
        }
        right(words.toString());
        Due.faultAt(words.toString(), "word ^w12 1;", 2);
        right("sum a; sum b; sum c; sum d;");
        wrong("sum a; sum b; sum c; sum d; sum ^e;", 2);
        StringBuilder laws = new StringBuilder();
        for (int i = 0; i < 10; i++) {
            laws.append("law l").append(i).append(" rank 1 from 0; end ");
        }
        right(laws.toString());
        Due.faultAt(laws.toString(), "law ^l10 rank 1 from 0; end", 2);
        StringBuilder rules = new StringBuilder("word w 0; sum s; person p; law l rank 1 from 0; ");
        for (int i = 0; i < 10; i++) {
            rules.append("rule r").append(i).append(": => w; bar b").append(i).append(": => w; ");
            rules.append("take t").append(i).append(": => s(p) + 1; ");
        }
        right(rules + "end");
        wrong(rules + "rule ^x: => w; end", 2);
        wrong(rules + "take ^x: => s(p) + 1; end", 2);
        Due.faultAt(rules + "end", "law m rank 0 from 0; bar ^x: => w; end", 2);
        // A name told twice takes room, and its fault comes behind that of room.
        Due.faultAt("sum a; sum b; sum c;", "sum c; sum ^e;", 2);
        // A text with a fault takes no room.
        StatuteBench bench = Due.bench("sum a; sum b;");
        Due.fault(bench, "sum c; sum c;", 3, 11);
        Due.fault(bench, "sum c; sum d;", 0, -1);
        StringBuilder overs = new StringBuilder();
        for (int i = 0; i < 20; i++) {
            overs.append("over a b; ");
        }
        String two = "word w 0; law l rank 1 from 0; rule a: => w; rule b: => w; end ";
        right(two + overs);
        wrong(two + overs + "^over a b;", 2);
        wrong(two + overs + "^over;", 2);
        Due.faultAt(two + overs, "^over b a;", 2);
        Due.faultAt(two + overs, "^over", 2);
    }

    private static void roomInRules() {
        String six = "fine, late(X), same X X, other X Y, if 1 < 2, not fine";
        rightRule("rule r: " + six + " => fine;");
        wrongRule("rule r: " + six + ", ^fine => fine;", 2);
        wrongRule("rule r: " + six + ", ^if => fine;", 2);
        wrongRule("rule r: " + six + ", ^not => fine;", 2);
        wrongRule("rule r: " + six + ", ^same => fine;", 2);
        wrongRule("rule r: " + six + ", ^=> fine;", 1);
        wrongRule("take r: " + six + ", ^fine => due(ann) + 1;", 2);
        rightRule("rule r: " + six + " => fine; rule s: " + six + " => fine;");
        rightRule("rule r: owes(X, Y), owes(Y, Z), owes(Z, X) => owes(X, Z);");
        wrongRule("rule r: owes(X, Y), owes(Z, ^W) => fine;", 2);
        wrongRule("rule r: owes(X, Y), late(Z) => late(^W);", 2);
        wrongRule("rule r: other A B, if C.0 < ^D.0 => fine;", 2);
        wrongRule("take t: other A B => due(C) + ^D.0;", 2);
        wrongRule("rule r: other A B, same C ^D => fine;", 2);
        rightRule("rule r: owes(X, Y), late(Z) => fine; rule s: owes(A, B), late(C) => fine;");
        String open = Due.repeat("(", 8);
        String close = Due.repeat(")", 8);
        rightRule("take t: => due(ann) + " + open + "1" + close + ";");
        rightRule("take t: => due(ann) + " + open + "1" + close + " * " + open + "1" + close + ";");
        rightRule("take t: => due(ann) + (1 + (2)) * (3) * (((4)));");
        wrongRule("take t: => due(ann) + " + open + "^(1" + close + ");", 2);
        wrongRule("rule r: if 1 < 2 + " + open + "^(1" + close + ") => fine;", 2);
        wrongRule("rule r: if " + open + "1 * ^(1" + close + ") => fine;", 2);
        wrongRule("take t: => due(ann) + " + open + "^);", 1);
    }

    private static void roomForTokens() {
        // 19 tokens ahead of the sums of ones, and 6 behind them.
        String head = "person a; word w 0; law l rank 0 from 0; rule r: if 1";
        String negative = head.replace("if 1", "if -1");
        String tail = " < 2 => w; end";
        String ones = Due.repeat("+1", 587);
        right(head + ones + tail);
        right(negative + ones + tail + "  ");
        wrong(head + ones + "+1 < 2 => w; ^end", 2);
        wrong(negative + ones + "+1 < 2 => w^; end", 2);
        wrong(negative + ones + tail + " ^person b;", 2);
        wrong(negative + ones + tail + " ^over", 2);
        wrong(negative + ones + tail + " ^end", 1);
        wrong(negative + ones + tail + " ^#", 1);
        wrong(negative + ones + tail + " ^abcdefghijk", 1);
        wrong(head + ones + "+1 < 2 => w;  ^", 1);
        wrong(head + ones + "+1+1+1+^1+1+1+1", 2);
        wrong(head + ones + "+1+1+1 ^7", 1);
        wrong(head + ones + "+1+1 + ^+ 7", 1);
        wrong(head.replace("person a;", "person a; person a;") + ones + tail.replace("w; end", "w^; end"), 2);
    }

    private static void twice() {
        wrong("person a; person ^a;", 3);
        wrong("word a 0; word ^a 1;", 3);
        wrong("sum a; sum ^a;", 3);
        wrong("law a rank 0 from 0; end law ^a rank 1 from 1; end", 3);
        wrong("word w 0; law a rank 0 from 0; rule r: => w; bar ^r: => w; end", 3);
        right("person a; word a 0; sum a; law a rank 0 from 0; rule a: => a; take b: => a(a) + a.0; end");
        Due.faultAt("person a;", "person b; person ^a;", 3);
        Due.faultAt("word a 0;", "word ^a 0;", 3);
        Due.faultAt("sum a;", "sum ^a;", 3);
        Due.faultAt("law a rank 0 from 0; end", "law ^a rank 0 from 0; end", 3);
        Due.faultAt("word w 0; law a rank 0 from 0; rule r: => w; end", "law b rank 0 from 0; rule ^r: => w; end", 3);
        Due.faultAt("person abcdefghij;", "person abcdefghi; person abcdefghi0; person ^abcdefghij;", 3);
    }

    private static void unknown() {
        wrong("law l rank 0 from 0; rule r: => ^w; end word w 0;", 4);
        wrong("word w 1; law l rank 0 from 0; rule r: => w(^a); end person a;", 4);
        wrong("person a; law l rank 0 from 0; take r: => ^s(a) + 1; end sum s;", 4);
        wrongRule("rule r: ^none => fine;", 4);
        wrongRule("rule r: not ^none(X) => fine;", 4);
        wrongRule("rule r: late(^cy) => fine;", 4);
        wrongRule("rule r: owes(X, ^cy) => fine;", 4);
        wrongRule("rule r: same X ^cy => fine;", 4);
        wrongRule("rule r: other ^cy X => fine;", 4);
        wrongRule("rule r: if 1 < ^cy.0 => fine;", 4);
        wrongRule("take r: => due(^cy) + 1;", 4);
        wrongRule("take r: => ^fine(ann) + 1;", 4);
        wrongRule("take r: => due(ann) + ^due.0;", 4);
        wrongRule("rule r: => ^ann;", 4);
        wrongRule("rule r: => ^r;", 4);
    }

    private static void wrong() {
        right("word a 0; word b 1; word c 2;");
        wrong("word a ^3;", 5);
        wrong("word a ^999999;", 5);
        right("law l rank 9 from 999999; end");
        wrong("law l rank ^10 from 0; end", 5);
        right("law l rank 1 from 4 until 5; end");
        wrong("law l rank 1 from 5 until ^5; end", 5);
        wrong("law l rank 1 from 5 until ^4; end", 5);
        wrong("law l rank 1 from 999999 until ^999999; end", 5);
        wrongRule("rule r: ^fine(X) => fine;", 5);
        wrongRule("rule r: ^fine(X, Y) => fine;", 5);
        wrongRule("rule r: ^late => fine;", 5);
        wrongRule("rule r: not ^late(X, Y) => fine;", 5);
        wrongRule("rule r: ^owes => fine;", 5);
        wrongRule("rule r: => not ^owes(X);", 5);
        rightRule("take t: => due(ann) + ann.0 + ann.1 + ann.2 + ann.3 + 0/1 + ann.003;");
        wrongRule("take t: => due(ann) + ann.^4;", 5);
        wrongRule("take t: => due(ann) + 1/^0;", 5);
        wrongRule("take t: => due(ann) + 1/^000000;", 5);
        wrongRule("rule r: if 0/1 < 0/^0 => fine;", 5);
    }

    private static void overs() {
        String code = "word w 0; sum s; person p; law l rank 1 from 0; rule a: => w; bar b: => w; take t: => s(p) + 1; end ";
        Due.fault(Due.bench(code), "over a b; over b a; over a b;", 0, -1);
        Due.faultAt(code, "over ^c a;", 4);
        Due.faultAt(code, "over a ^c;", 4);
        Due.faultAt(code, "over ^t a;", 5);
        Due.faultAt(code, "over a ^t;", 5);
        Due.faultAt(code, "over ^t t;", 5);
        Due.faultAt(code, "over a ^a;", 5);
        Due.faultAt(code, "over ^c c;", 4);
        Due.faultAt(code, "over ^w s;", 4);
        Due.fault(Due.bench(code), "over a z; law m rank 0 from 0; rule z: => w; end", 0, -1);
        right("over x y; word w 0; law m rank 0 from 0; rule y: => w; rule x: => w; end");
        Due.faultAt(code, "over a ^z; law m rank 0 from 0; take z: => s(p) + 1; end", 5);
    }

    private static void whichFaultIsFirst() {
        // Syntax and room stand ahead of all others, wherever they are.
        wrong("person a; person a; word w 7; law l rank 0 from 0; rule r: => x; end ^end", 1);
        wrong("sum a; sum a; sum b; sum c; sum ^d;", 2);
        wrong("sum a; sum b; sum c; sum d; sum ^e; #", 2);
        wrong("^# sum a; sum b; sum c; sum d; sum e;", 1);
        // Of the others the first by its place.
        wrong("word a ^3; word a 0;", 5);
        wrong("word a 0; word ^a 3;", 3);
        wrong("law l rank 0 from 0; rule r: => ^x; end law l rank 10 from 0; end", 4);
        wrong("law l rank ^10 from 0; rule r: => x; end", 5);
        wrong("word w 0; law l rank 0 from 0; rule r: ^w(X) => x; end", 5);
        wrong("word w 2; law l rank 0 from 0; rule r: ^w(a) => w; end", 5);
        wrong("word w 1; law l rank 0 from 0; rule r: w(^a) => w; end", 4);
        // An over's place counts, though its rules are looked for at the end.
        wrong("over ^a b; person p; person p;", 4);
        wrong("person p; person ^p; over a b;", 3);
        wrong("word w 0; law l rank 0 from 0; rule a: => w; end over a ^a; word w 1;", 5);
    }

    private static void nothingChanges() {
        StatuteBench bench = Due.bench(ALL + LAW + "rule r: late(X) => fine; end");
        String faulty = "person cy; word w 1; sum s; law two rank 2 from 0; rule q: w(X) => fine; "
            + "take t: => due(cy) + 3/4; end over r q; person ann;";
        Due.fault(bench, faulty, 3, faulty.length() - 4);
        int[] due = {2, 3, 2, 1, 1, 0};
        for (int what = 0; what < due.length; what++) {
            Due.is("count(" + what + ") behind a fault", bench.count(what), due[what]);
        }
        Due.is("the tape is empty", bench.count(8), 0);
        Due.is("a rule of a faulty text", bench.rule(1, 0), -1);
        Due.is("a law of a faulty text", bench.law(1, 0), -1);
        Due.is("rules of the law", bench.law(0, 4), 1);
        Due.fault(bench, "law two rank 3 from 1; bar q: => not fine; end over q r; person cy;", 0, -1);
        Due.is("kind of the new rule", bench.rule(1, 1), 1);
        Due.is("conditions of the new rule", bench.rule(1, 2), 0);
        Due.is("variables of the new rule", bench.rule(1, 3), 0);
        Due.is("the over that is there", bench.above(1, 0), 1);
        Due.is("overs", bench.count(5), 1);
        Due.fault(bench, "#", 1, 0);
        Due.is("place() stays", bench.place(), 0);
        Due.fault(bench, "", 0, -1);
        Due.is("place() of a right text", bench.place(), -1);
    }
}
