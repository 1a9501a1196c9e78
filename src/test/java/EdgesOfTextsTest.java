/**
 * The edges of part I of the document's terms, sentence by sentence. The sign ^ in a text stands ahead of the fault,
 * and is no part of the text.
 */
public final class EdgesOfTextsTest {
    private static final int NOTHING = 0;
    private static final int SYNTAX = 1;
    private static final int ROOM = 2;
    private static final int TWICE = 3;
    private static final int NAME = 4;
    private static final int WRONG = 5;

    private static final String[] QUOTED = {"person", "word", "sum", "law", "rank", "from", "until", "end", "over",
        "rule", "bar", "take", "most", "least", "same", "other", "if", "not"};
    private static final String ALL = "person a; person b; word w 0; word v 1; word u 2; sum s; ";
    private static final String LAW = "law l rank 1 from 0; ";
    private static final String TWO = "word w 0; law l rank 1 from 0; rule a: => w; rule b: => w; end ";

    public static void main(String[] args) {
        bytesOfAText();
        blanks();
        everyByte();
        lengthOfNames();
        quotedWords();
        variables();
        digitsOfIntegers();
        longestTokens();
        nothingWhereNothingIsNeeded();
        tokensThatGoOn();
        endOfText();
        mostTokens();
        mostPersons();
        mostWords();
        mostSums();
        mostLaws();
        mostRules();
        mostConditions();
        mostVariables();
        mostBrackets();
        mostOvers();
        twice();
        unknownNames();
        rulesOfOvers();
        terms();
        integersThatAreWrong();
        wrongOvers();
        firstPlace();
        leastOfOnePlace();
        syntaxAndRoomFirst();
        faultsChangeNothing();
        numbersFromNothing();
        dayOfLaws();
        Due.end();
    }

    private static void right(String text) {
        Due.fault(text, NOTHING, -1);
    }

    private static void wrong(String marked, int fault) {
        Due.faultAt("", marked, fault);
    }

    private static void rightRule(String rule) {
        Due.fault(Due.bench(ALL), LAW + rule + " end", NOTHING, -1);
    }

    private static void wrongRule(String marked, int fault) {
        Due.faultAt(ALL, LAW + marked + " end", fault);
    }

    /** As many of the parts as told, with # of each being its number. */
    private static String many(String part, int count) {
        StringBuilder all = new StringBuilder();
        for (int i = 0; i < count; i++) {
            all.append(part.replace("#", "" + i));
        }
        return all.toString();
    }

    private static String padded(String head, int length, String tail) {
        return head + " ".repeat(length - head.length() - tail.length()) + tail;
    }

    private static void bytesOfAText() {
        Due.by("THE TEXTS, at most 4,000 bytes each; each that is taken is added to the CODE");
        right("");
        StatuteBench bench = Due.bench(padded("person a;", 4000, "person b;"));
        Due.is("persons of 4,000 bytes", bench.count(0), 2);
        Due.fault(bench, padded("person c;", 4000, "person d"), SYNTAX, 4000);
        Due.is("persons behind a fault", bench.count(0), 2);
        StatuteBench two = Due.bench(padded("person a;", 4000, "person b;"));
        Due.fault(two, padded("person c;", 3999, "person d;"), NOTHING, -1);
        Due.is("persons of both texts", two.count(0), 4);
        StatuteBench longer = new StatuteBench();
        Due.feed(longer, padded("person a;", 4000, "person b;") + "person c;");
        Due.is("bytes of a longer text", longer.count(8), 4000 - 11);
    }

    private static void blanks() {
        Due.by("with blanks (9, 10, 13, 32) between or not");
        for (String blank : new String[] {"\t", "\n", "\r", " ", "\r\n\t "}) {
            right(blank);
            right(("person a ; word w 0 ; law l rank 1 from 0 until 2 ; rule r : if - 1 * ( 2 + 3 ) <= a . 0 , w "
                + "=> not w ; end").replace(" ", blank));
        }
        right("person a;word w 0;law l rank 1from 0until 2;rule r:if-1*(2+3)<=a.0,w=>not w;end");
        for (int other : new int[] {0, 8, 11, 12, 14, 31, 127, 133, 160, 255}) {
            wrong("person a;^" + (char) other, SYNTAX);
        }
    }

    private static boolean isBlank(int b) {
        return b == 9 || b == 10 || b == 13 || b == 32;
    }

    private static void everyByte() {
        Due.by("all else, is no TOKEN");
        for (int b = 0; b < 256; b++) {
            boolean small = b >= 'a' && b <= 'z';
            boolean digit = b >= '0' && b <= '9';
            boolean capital = b >= 'A' && b <= 'Z';
            String one = "" + (char) b;
            if (small || digit || isBlank(b)) {
                Due.fault("person q" + one + ";", NOTHING, -1);
            } else {
                Due.fault("person q" + one + ";", SYNTAX, b == ';' ? 9 : 8);
            }
            if (small) {
                Due.fault("person " + one + ";", NOTHING, -1);
            } else {
                Due.fault("person " + one + ";", SYNTAX, isBlank(b) ? 8 : 7);
            }
            String ahead = LAW + "rule r: same X";
            if (capital) {
                Due.fault(Due.bench(ALL), ahead + one + "=> w; end", NOTHING, -1);
            } else if (small) {
                boolean told = b == 'a' || b == 'b';
                int place = told ? -1 : ahead.length() + 1;
                Due.fault(Due.bench(ALL), ahead + " " + one + "=> w; end", told ? NOTHING : NAME, place);
            } else {
                Due.fault(Due.bench(ALL), ahead + one + "=> w; end", SYNTAX, ahead.length() + (isBlank(b) ? 1 : 0));
            }
        }
    }

    private static void lengthOfNames() {
        Due.by("NAMES (a letter a .. z, then letters and digits, at most 10 .. A longer NAME .. is no TOKEN");
        right("person a; person z; person a0; person z9;");
        right("person abcdefghij; person z123456789; person a0b1c2d3e4;");
        wrong("person ^abcdefghijk;", SYNTAX);
        wrong("person ^a1234567890;", SYNTAX);
        wrong("person ^abcdefghijabcdefghijabcdefghij;", SYNTAX);
        wrong("person a; word ^abcdefghijk 0;", SYNTAX);
        wrong("^personabcde;", SYNTAX);
        wrong("person ^0a;", SYNTAX);
        wrong("person abcdefghij^Abc;", SYNTAX);
        // Ten letters are told apart by the last one, and by their length.
        right("person abcdefghij; person abcdefghik; person abcdefghi; person abcdefghi0; person bbcdefghij;");
    }

    private static void quotedWords() {
        Due.by("none of the words in quotes below");
        for (String word : QUOTED) {
            wrong("person ^" + word + ";", SYNTAX);
            wrong("law ^" + word + " rank 0 from 0; end", SYNTAX);
            wrongRule("rule r: v(^" + word + ") => w;", SYNTAX);
            right("person " + word + "s; sum " + word + "0; word x" + word + " 0;");
            right("sum " + word.substring(0, word.length() - 1) + ";");
        }
        right("sum be; sum so; sum fact; sum by;");
    }

    private static void variables() {
        Due.by("VARS (one letter A .. Z) .. (XY are two VARS; Xa is X, a.)");
        rightRule("rule r: same AZ, same ZA, other A a => v(Z);");
        rightRule("rule r: same XY => w;");
        rightRule("rule r: same Xa => w;");
        rightRule("rule r: same XX => u(X,X);");
        wrongRule("rule r: same XY^Z => w;", SYNTAX);
        wrongRule("rule r: v(X^a) => w;", SYNTAX);
        wrongRule("rule r: same X^@ => w;", SYNTAX);
        wrongRule("rule r: same X^[ => w;", SYNTAX);
        wrongRule("rule r: same X^1 => w;", SYNTAX);
        wrongRule("rule ^R: => w;", SYNTAX);
        StatuteBench bench = Due.bench("person a; word w 0; law l rank 0 from 0; rule r: same Xa, same YX => w; end");
        Due.is("VARS of XY and Xa", bench.rule(0, 3), 2);
    }

    private static void digitsOfIntegers() {
        Due.by("INTS (1 to 6 digits) .. A longer .. INT .. is no TOKEN");
        right("word w 0; word v 1; word u 2; word t 000002;");
        wrong("word w ^0000002;", SYNTAX);
        wrong("word w ^1234567;", SYNTAX);
        wrong("word w ^00000000000000000000000000000001;", SYNTAX);
        wrong("word w ^;", SYNTAX);
        right("law l rank 000009 from 999999; end");
        wrong("law l rank 0 from ^1000000; end", SYNTAX);
        wrong("law l rank 0 from 0 until ^1000000; end", SYNTAX);
        rightRule("take t: => s(a) + 999999/999999;");
        wrongRule("take t: => s(a) + ^1000000;", SYNTAX);
        wrongRule("take t: => s(a) + 1/^1000000;", SYNTAX);
        wrongRule("take t: => s(a) + a.^0000003;", SYNTAX);
    }

    private static void longestTokens() {
        Due.by("TOKENS, the longest that can be");
        rightRule("rule r: if 1<=2,if 1<2,if 1==2,if 1!=2=>w;");
        rightRule("rule r: if 12<=345,same a b=>w;");
        wrongRule("rule r: if 12 ^345 <= 1 => w;", SYNTAX);
        wrongRule("rule r: same ab ^=> w;", SYNTAX);
        wrongRule("rule r: if 1 < ^= 2 => w;", SYNTAX);
        wrongRule("rule r: if 1 ^= = 2 => w;", SYNTAX);
        wrongRule("rule r: if 1 ^! = 2 => w;", SYNTAX);
        wrongRule("rule r: ^= > w;", SYNTAX);
        wrongRule("rule r: if 1 <=^> w;", SYNTAX);
        wrongRule("rule r: if 1 ==^=2 => w;", SYNTAX);
        wrongRule("rule r: if 1 ==^> w;", SYNTAX);
        wrongRule("rule r: =>^= w;", SYNTAX);
        wrongRule("rule r: if 1 !=^= 2 => w;", SYNTAX);
        wrongRule("rule r: if 1 ^> 2 => w;", SYNTAX);
        wrongRule("rule r: if 1 ^>= 2 => w;", SYNTAX);
        wrong("word w0^;", SYNTAX);
        wrong("^perso n a;", SYNTAX);
    }

    private static void nothingWhereNothingIsNeeded() {
        Due.by("text: {TELL} .. {RULE} 'end' .. [COND {',' COND}] .. [ 'until' INT ] .. ['(' TERM [',' TERM] ')']");
        right("");
        right("law l rank 0 from 0; end");
        right("law l rank 0 from 0 until 1; end");
        rightRule("rule r: => w; bar c: => not w; take t: => s(a) + 0;");
        rightRule("rule r: w => v(a); rule q: v(X), u(X, Y) => w;");
        wrongRule("rule r: w(^) => w;", SYNTAX);
        wrongRule("rule r: v(X,^) => w;", SYNTAX);
        wrongRule("rule r: u(X, Y^, X) => w;", SYNTAX);
        wrongRule("rule r: ^, w => w;", SYNTAX);
        wrongRule("rule r: w, ^=> w;", SYNTAX);
        wrongRule("take t: => s ^+ 1;", SYNTAX);
        wrongRule("take t: => s(^) + 1;", SYNTAX);
        wrongRule("take t: => s(a) +^;", SYNTAX);
        wrongRule("take t: => s(a) + (^);", SYNTAX);
        wrongRule("rule r: if ^== 1 => w;", SYNTAX);
        wrong("law l rank 0 from 0 until^; end", SYNTAX);
        wrong("^end", SYNTAX);
        wrong("law l rank 0 from 0; end ^end", SYNTAX);
    }

    // What a text has, and the TOKENS with which it goes on: N a NAME, V a VAR, I an INT, $ its end; L is a LAW's head.
    private static final String[][] WAYS = {
        {"", "person word sum law over $"}, {"person", "N"}, {"person a", ";"}, {"person a;",
        "person word sum law over $"},
        {"word", "N"}, {"word w", "I"}, {"word w 0", ";"}, {"word w 0;", "person word sum law over $"},
        {"sum", "N"}, {"sum s", ";"}, {"sum s;", "person word sum law over $"},
        {"over", "N"}, {"over a", "N"}, {"over a b", ";"}, {"over a b;", "person word sum law over $"},
        {"law", "N"}, {"law l", "rank"}, {"law l rank", "I"}, {"law l rank 1", "from"}, {"law l rank 1 from", "I"},
        {"law l rank 1 from 0", "until ;"}, {"law l rank 1 from 0 until", "I"}, {"law l rank 1 from 0 until 1", ";"},
        {"L", "rule bar take end"}, {"L end", "person word sum law over $"},
        {"L rule", "N"}, {"L bar", "N"}, {"L take", "N"}, {"L rule r", ":"}, {"L bar r", ":"}, {"L take r", ":"},
        {"L rule r:", "N not same other if =>"}, {"L bar r:", "N not same other if =>"},
        {"L take r:", "N not same other if =>"}, {"L rule r: w,", "N not same other if"},
        {"L rule r: not", "N"}, {"L rule r: not w", "( , =>"}, {"L rule r: w", "( , =>"}, {"L rule r: w(", "V N"},
        {"L rule r: w(X", ", )"}, {"L rule r: w(a,", "V N"}, {"L rule r: w(X, a", ")"}, {"L rule r: w(X)", ", =>"},
        {"L rule r: w(X, Y)", ", =>"}, {"L rule r: same", "V N"}, {"L rule r: same X", "V N"},
        {"L rule r: same X a", ", =>"}, {"L rule r: other", "V N"}, {"L rule r: other a", "V N"},
        {"L rule r: other a Y", ", =>"}, {"L rule r: if", "- I V N ("}, {"L rule r: if -", "I V N ("},
        {"L rule r: if 1", "/ * + - == != < <="}, {"L rule r: if 1/", "I"}, {"L rule r: if 1/2", "* + - == != < <="},
        {"L rule r: if X", "."}, {"L rule r: if a", "."}, {"L rule r: if X.", "I"}, {"L rule r: if a.0",
        "* + - == != < <="},
        {"L rule r: if (", "- I V N ("}, {"L rule r: if (-", "I V N ("}, {"L rule r: if (1", "/ * + - )"},
        {"L rule r: if (X.0", "* + - )"}, {"L rule r: if (1)", "* + - == != < <="}, {"L rule r: if 1 *", "I V N ("},
        {"L rule r: if 1 +", "I V N ("}, {"L rule r: if 1 -", "I V N ("}, {"L rule r: if 1 ==", "- I V N ("},
        {"L rule r: if 1 !=", "- I V N ("}, {"L rule r: if 1 <", "- I V N ("}, {"L rule r: if 1 <=", "- I V N ("},
        {"L rule r: if 1 < 2", "/ * + - , =>"}, {"L rule r: if 1 < 2/3", "* + - , =>"},
        {"L rule r: if 1 < X.0", "* + - , =>"}, {"L rule r: if 1 < (2)", "* + - , =>"},
        {"L rule r: =>", "N not"}, {"L rule r: => not", "N"}, {"L bar r: => w", "( ;"}, {"L rule r: => w(", "V N"},
        {"L rule r: => w(X", ", )"}, {"L rule r: => w(X, Y", ")"}, {"L rule r: => w(X)", ";"},
        {"L rule r: => w(X, Y)", ";"}, {"L rule r: => w;", "rule bar take end"}, {"L bar r: => w;",
        "rule bar take end"},
        {"L take r: =>", "N"}, {"L take r: => s", "("}, {"L take r: => s(", "V N"}, {"L take r: => s(X", ")"},
        {"L take r: => s(a)", "+ * most least"}, {"L take r: => s(X) +", "- I V N ("}, {"L take r: => s(X) *",
        "- I V N ("},
        {"L take r: => s(X) most", "- I V N ("}, {"L take r: => s(X) least", "- I V N ("},
        {"L take r: => s(X) + 1", "/ * + - ;"}, {"L take r: => s(X) + 1/2", "* + - ;"},
        {"L take r: => s(X) + X.0", "* + - ;"}, {"L take r: => s(X) + (1)", "* + - ;"},
        {"L take r: => s(X) + 1;", "rule bar take end"},
    };

    private static final String SIGNS = ": ; , . ( ) + - * / => == != < <=";

    private static void tokensThatGoOn() {
        Due.by("1 SYNTAX: a TOKEN, or what is none, with which no text goes on");
        String tokens = String.join(" ", QUOTED) + " " + SIGNS + " N V I # = ! > abcdefghijk 1234567";
        for (String[] way : WAYS) {
            String text = way[0].replace("L", LAW);
            for (String token : tokens.split(" ")) {
                String ahead = text + " ";
                String written = token.replace("N", "zz").replace("V", "X").replace("I", "7");
                boolean goesOn = (" " + way[1] + " ").contains(" " + token + " ");
                int place = ahead.length() + (goesOn ? written.length() + 1 : 0);
                Due.fault(ahead + written + " # " + written, SYNTAX, place);
            }
            if (way[1].contains("$")) {
                Due.is("SYNTAX of " + text, Due.read(new StatuteBench(), text) == SYNTAX, false);
            } else {
                Due.fault(text, SYNTAX, text.length());
            }
        }
    }

    private static void endOfText() {
        Due.by("the text's end: its length");
        String[] tokens = {"person", " a", ";", " word", " w", " 0", ";", " law", " l", " rank", " 1", " from", " 0",
            " until", " 9", ";", " rule", " r", ":", " if", " -", " 1", " <=", " a", ".", " 0", ",", " not", " w",
            " =>", " w", ";", " end", " over", " r", " q", ";"};
        StringBuilder text = new StringBuilder();
        for (int i = 0; i < tokens.length - 1; i++) {
            text.append(tokens[i]);
            // A text may end behind a TELL alone.
            boolean whole = i == 2 || i == 6 || i == 32;
            Due.fault(text.toString(), whole ? 0 : SYNTAX, whole ? -1 : text.length());
            Due.fault(text + "  \n", whole ? 0 : SYNTAX, whole ? -1 : text.length() + 3);
        }
    }

    private static void mostTokens() {
        Due.by("2 ROOM: a 1,201st TOKEN");
        // 20 tokens up to the first one, two for each other one, and 6 behind them.
        String head = "person a; word w 0; law l rank 0 from 0; rule r: if -1" + "+1".repeat(587);
        String tail = " < 2 => w; end";
        right(head + tail);
        right(head + tail + " ".repeat(500));
        wrong(head + tail + " ^person b;", ROOM);
        wrong(head + tail + " ^over", ROOM);
        wrong(head + "-1 < 2 => w^; end", ROOM);
        wrong(head + "*1+1 < 2 ^=> w; end", ROOM);
        wrong(head + "*1/1 < 2^=> w; end", ROOM);
        wrong(head + "+(1+1*^(1", ROOM);
        wrong(head + "+1+1+1^+1 < 2 => w; end", ROOM);
        wrong(head + "*1 < 2, w ^=> w; end", ROOM);
        wrong(head + tail + "  ^;", SYNTAX);
        wrong(head + tail + "^\u007f", SYNTAX);
        wrong(head + tail + " ^abcdefghijk", SYNTAX);
        wrong(head + " < 2 => w;^", SYNTAX);
        wrong(head + "*1 < 2 => w^", SYNTAX);
        StatuteBench bench = Due.bench(head + tail);
        Due.is("a text of 1,200 TOKENS is there", bench.count(4), 1);
        Due.fault(bench, "person b; word v 1; law m rank 0 from 0; rule q: if -1" + "+1".repeat(587)
            + " < 2 => w; end", NOTHING, -1);
        Due.is("and so is another one", bench.count(4), 2);
    }

    /** The last of a sort that there is room for, and the first that there is none for, in one text and in two. */
    private static void mostOf(String tell, int most, int what) {
        String full = many(tell, most);
        String next = tell.replaceFirst("#", "^" + most);
        String markedName = next.replaceFirst("([a-z])\\^", "^$1");
        right(full);
        wrong(full + markedName, ROOM);
        Due.faultAt(full, markedName, ROOM);
        Due.faultAt(many(tell, most - 1), tell.replace("#", "" + (most - 1)) + markedName, ROOM);
        // What is no NAME is a fault of syntax there, and NAMES of a faulty text take no room.
        Due.faultAt(full, markedName.substring(0, markedName.indexOf('^')) + "^;", SYNTAX);
        StatuteBench bench = Due.bench(many(tell, most - 1));
        Due.is("read of a faulty text", Due.read(bench, tell.replace("#", "" + (most - 1)) + "#"), SYNTAX);
        Due.is("as many as before", bench.count(what), most - 1);
        Due.fault(bench, tell.replace("#", "" + (most - 1)), NOTHING, -1);
        Due.is("the most there are", bench.count(what), most);
        Due.is("read of one more", Due.read(bench, tell.replace("#", "" + most)), ROOM);
        Due.is("still the most", bench.count(what), most);
    }

    private static void mostPersons() {
        Due.by("a 6th PERSON (of the CODE, with this text; at its NAME)");
        mostOf("person p#; ", 5, 0);
    }

    private static void mostWords() {
        Due.by("13th WORD (of the CODE, with this text; at its NAME)");
        mostOf("word w# 1; ", 12, 1);
    }

    private static void mostSums() {
        Due.by("5th SUM (of the CODE, with this text; at its NAME)");
        mostOf("sum s#; ", 4, 2);
    }

    private static void mostLaws() {
        Due.by("11th LAW (of the CODE, with this text; at its NAME)");
        mostOf("law l# rank 1 from 0; end ", 10, 3);
    }

    private static void mostRules() {
        Due.by("31st RULE (of the CODE, with this text; at its NAME)");
        String head = ALL + "law l rank 0 from 0; ";
        String rules = many("rule r#: => w; ", 30);
        String bars = many("bar r#: => w; ", 30);
        String takes = many("take r#: => s(a) + 1; ", 30);
        for (String thirty : new String[] {rules, bars, takes}) {
            StatuteBench bench = Due.bench(head + thirty + "end");
            Due.is("RULES", bench.count(4), 30);
            Due.faultAt(head + thirty + "end", "law m rank 0 from 0; rule ^x: => w; end", ROOM);
            Due.faultAt(head + thirty + "end", "law m rank 0 from 0; bar ^x: => w; end", ROOM);
            Due.faultAt(head + thirty + "end", "law m rank 0 from 0; take ^x: => s(a) + 1; end", ROOM);
            Due.faultAt(head + thirty + "end", "law m rank 0 from 0; take ^: => s(a) + 1; end", SYNTAX);
            wrong(head + thirty + "rule ^x: => w; end", ROOM);
            wrong(head + thirty + "bar ^x: => w; end", ROOM);
            wrong(head + thirty + "take ^x: => s(a) + 1; end", ROOM);
            Due.faultAt(ALL, "law k rank 0 from 0; end law l rank 0 from 0; " + thirty
                + "end law m rank 0 from 0; rule ^x", ROOM);
        }
        Due.faultAt(head + many("rule r#: => w; ", 29) + "end", "law m rank 0 from 0; bar x: => w; take ^y: end", ROOM);
    }

    private static void mostConditions() {
        Due.by("a 7th COND .. of a RULE (at its first TOKEN)");
        String six = "w, not w, same X Y, other X Y, if X.0 < 1, v(X)";
        for (String kind : new String[] {"rule r: ", "bar r: "}) {
            rightRule(kind + six + " => w;");
            wrongRule(kind + six + ", ^w => w;", ROOM);
            wrongRule(kind + six + ", ^not w => w;", ROOM);
            wrongRule(kind + six + ", ^u(X, Y) => w;", ROOM);
            wrongRule(kind + six + ", ^same X Y => w;", ROOM);
            wrongRule(kind + six + ", ^other X Y => w;", ROOM);
            wrongRule(kind + six + ", ^if 1 < 2 => w;", ROOM);
            wrongRule(kind + six + ", ^w, #", ROOM);
            wrongRule(kind + six + ", ^=> w;", SYNTAX);
            wrongRule(kind + six + ", ^X => w;", SYNTAX);
            wrongRule(kind + six + " ^w => w;", SYNTAX);
        }
        rightRule("take t: " + six + " => s(X) + 1;");
        wrongRule("take t: " + six + ", ^w => s(X) + 1;", ROOM);
        rightRule("rule r: " + six + " => w; rule q: " + six + " => w; take t: " + six + " => s(X) + 1;");
        StatuteBench bench = Due.bench(ALL + LAW + "rule r: => w; rule q: " + six + " => w; end");
        Due.is("no CONDS", bench.rule(0, 2), 0);
        Due.is("six CONDS", bench.rule(1, 2), 6);
    }

    private static void mostVariables() {
        Due.by("a 4th VAR of a RULE (at its first TOKEN)");
        String three = "same A B, v(C)";
        rightRule("rule r: " + three + ", u(A, B), other C A, if A.0 + B.0 < C.0 => u(B, C);");
        rightRule("rule r: " + three + " => w; rule q: same D E, v(F) => w; bar p: same G H => v(I);");
        wrongRule("rule r: " + three + ", v(^D) => w;", ROOM);
        wrongRule("rule r: " + three + ", u(^D, A) => w;", ROOM);
        wrongRule("rule r: " + three + ", u(A, ^D) => w;", ROOM);
        wrongRule("rule r: " + three + ", same ^D A => w;", ROOM);
        wrongRule("rule r: " + three + ", same A ^D => w;", ROOM);
        wrongRule("rule r: " + three + ", other ^D A => w;", ROOM);
        wrongRule("rule r: " + three + ", other A ^D => w;", ROOM);
        wrongRule("rule r: " + three + ", if ^D.0 < 1 => w;", ROOM);
        wrongRule("rule r: " + three + ", if 1 < (2 + ^D.0) => w;", ROOM);
        wrongRule("bar r: " + three + " => not v(^D);", ROOM);
        wrongRule("rule r: " + three + " => u(A, ^D);", ROOM);
        wrongRule("take t: " + three + " => s(^D) + 1;", ROOM);
        wrongRule("take t: " + three + " => s(A) + C.0 * ^D.0;", ROOM);
        rightRule("take t: " + three + " => s(A) + C.0 * B.0;");
        StatuteBench bench = Due.bench(ALL + LAW + "rule r: => w; take t: " + three + " => s(A) + B.0; end");
        Due.is("no VARS", bench.rule(0, 3), 0);
        Due.is("three VARS", bench.rule(1, 3), 3);
    }

    private static void mostBrackets() {
        Due.by("a 9th ( within one another (at it)");
        String open = "(".repeat(8);
        String close = ")".repeat(8);
        String one = open + "1" + close;
        rightRule("take t: => s(a) + " + one + " * " + one + " - " + one + ";");
        rightRule("rule r: u(a, b), if " + open + "1" + close + " < " + open + "1" + close + " => u(a, b);");
        rightRule("take t: => s(a) + " + "(".repeat(7) + "(1) + (2) * (3)" + ")".repeat(7) + " + (4);");
        wrongRule("take t: => s(a) + " + open + "^(1" + close + ");", ROOM);
        wrongRule("take t: => s(a) + 1 - 2 * " + open + "-1 * ^(1" + close + ");", ROOM);
        wrongRule("take t: => s(a) + " + "(".repeat(7) + "(1) + (2 * ^(3" + close + ");", ROOM);
        wrongRule("rule r: if " + open + "^(1) => w;", ROOM);
        wrongRule("rule r: if 1 < " + open + "2 + ^(1) => w;", ROOM);
        wrongRule("rule r: if 1 < " + open + "^) => w;", SYNTAX);
        wrongRule("rule r: if 1 < " + open + "1" + close + "^) => w;", SYNTAX);
        wrongRule("rule r: if 1 < " + open + "1" + close.substring(1) + "^; => w;", SYNTAX);
    }

    private static void mostOvers() {
        Due.by("a 21st over of the CODE (at it)");
        String twenty = "over a b; ".repeat(20);
        StatuteBench bench = Due.bench(TWO + twenty);
        Due.is("overs", bench.count(5), 20);
        wrong(TWO + twenty + "^over a b;", ROOM);
        wrong(TWO + twenty + " ^over", ROOM);
        wrong(twenty + "^over a b; " + TWO, ROOM);
        Due.faultAt(TWO + twenty, "^over b a;", ROOM);
        Due.faultAt(TWO + twenty, "person p; ^over c d;", ROOM);
        Due.faultAt(TWO + "over a b; ".repeat(7), "over b a; ".repeat(13) + "^over a b;", ROOM);
        Due.fault(Due.bench(TWO + "over a b; ".repeat(7)), "over b a; ".repeat(13), NOTHING, -1);
        StatuteBench nearly = Due.bench(TWO + "over a b; ".repeat(19));
        Due.fault(nearly, "over b a; #", SYNTAX, 10);
        Due.fault(nearly, "over b c;", NAME, 7);
        Due.is("overs of faulty texts", nearly.count(5), 19);
        Due.fault(nearly, "over b a;", NOTHING, -1);
        Due.fault(nearly, "over b a;", ROOM, 0);
        Due.is("overs at last", nearly.count(5), 20);
        Due.fault(nearly, "person over1;", NOTHING, -1);
    }

    private static void twice() {
        Due.by("3 TWICE: a NAME that is told already, in the CODE or ahead in the text (each sort by itself)");
        String[] tells = {"person ^x;", "word ^x 0;", "sum ^x;", "law ^x rank 0 from 0; end",
            "law # rank 0 from 0; rule ^x: => w; end", "law # rank 0 from 0; bar ^x: => w; end",
            "law # rank 0 from 0; take ^x: => s(a) + 1; end"};
        String others = "person a; word w 0; sum s; ";
        for (int i = 0; i < tells.length; i++) {
            String first = tells[i].replace("^", "").replace("#", "l");
            for (int j = 0; j < tells.length; j++) {
                boolean same = Math.min(i, 4) == Math.min(j, 4);
                String second = tells[j].replace("#", "m");
                if (same) {
                    wrong(others + first + " " + second, TWICE);
                    Due.faultAt(others + first, second, TWICE);
                } else {
                    right(others + first + " " + second.replace("^", ""));
                    Due.fault(Due.bench(others + first), second.replace("^", ""), NOTHING, -1);
                }
            }
        }
        wrong("word w 0; law l rank 0 from 0; rule r: => w; rule ^r: => w; end", TWICE);
        StatuteBench bench = Due.bench("person a;");
        Due.fault(bench, "person b; person a;", TWICE, 17);
        Due.fault(bench, "person b;", NOTHING, -1);
    }

    private static void unknownNames() {
        Due.by("4 NAME: none such told ahead");
        wrong("law l rank 0 from 0; rule r: => ^w; end word w 0;", NAME);
        right("word w 0; law l rank 0 from 0; rule r: => w; end");
        wrong("person a; law l rank 0 from 0; take t: => ^s(a) + 1; end sum s;", NAME);
        right("person a; sum s; law l rank 0 from 0; take t: => s(a) + 1; end");
        wrong("word w 1; law l rank 0 from 0; rule r: => w(^a); end person a;", NAME);
        right("word w 1; person a; law l rank 0 from 0; rule r: => w(a); end");
        wrong("word w 0; law l rank 0 from 0; rule r: if ^a.0 < 1 => w; end person a;", NAME);
        String[] marked = {"rule r: ^x => w;", "rule r: not ^x => w;", "rule r: => ^x;", "rule r: => not ^x;",
            "rule r: v(^x) => w;", "rule r: u(^x, a) => w;", "rule r: u(a, ^x) => w;", "rule r: => v(^x);",
            "rule r: same ^x a => w;", "rule r: same a ^x => w;", "rule r: other ^x a => w;",
            "rule r: other a ^x => w;", "rule r: if ^x.0 < 1 => w;", "rule r: if 1 < (1 + ^x.0) => w;", "take t: => ^x(a) + 1;",
            "take t: => s(^x) + 1;", "take t: => s(a) + ^x.0;", "bar r: => ^x;"};
        for (String rule : marked) {
            wrongRule(rule, NAME);
        }
        // A NAME of another sort is none such.
        wrongRule("rule r: ^a => w;", NAME);
        wrongRule("rule r: ^s => w;", NAME);
        wrongRule("rule r: ^l => w;", NAME);
        wrongRule("rule r: ^r => w;", NAME);
        wrongRule("rule r: v(^w) => w;", NAME);
        wrongRule("take t: => ^w(a) + 1;", NAME);
        wrongRule("take t: => s(^s) + 1;", NAME);
        // What a faulty text told is not told.
        StatuteBench bench = Due.bench("word w 1;");
        Due.fault(bench, "person a; person a;", TWICE, 17);
        Due.fault(bench, "law l rank 0 from 0; rule r: => w(a); end", NAME, 34);
    }

    private static void rulesOfOvers() {
        Due.by("of RULES in an over: anywhere in the CODE or the text");
        right("over a b; " + TWO);
        right(TWO + "over a b;");
        right("word w 0; law l rank 0 from 0; rule b: => w; end over a b; law m rank 0 from 0; rule a: => w; end");
        Due.fault(Due.bench(TWO), "over c a; over b c; law m rank 0 from 0; bar c: => w; end", NOTHING, -1);
        Due.faultAt(TWO, "over ^c a;", NAME);
        Due.faultAt(TWO, "over a ^c;", NAME);
        Due.faultAt(TWO, "over ^c d;", NAME);
        Due.faultAt(TWO, "over ^l w;", NAME);
        Due.faultAt("", "over ^a b;", NAME);
        StatuteBench bench = Due.bench(TWO);
        Due.fault(bench, "law m rank 0 from 0; rule c: => w; end person p; person p;", TWICE, 56);
        Due.fault(bench, "over a c;", NAME, 7);
    }

    private static void terms() {
        Due.by("5 WRONG: at a WORD with another number of TERMS");
        String[] words = {"w", "v", "u"};
        String[] rows = {"", "(X)", "(X, Y)"};
        for (int places = 0; places < words.length; places++) {
            for (int given = 0; given < rows.length; given++) {
                String literal = words[places] + rows[given];
                if (places == given) {
                    rightRule("rule r: " + literal + ", not " + literal + " => " + literal + ";");
                    rightRule("bar r: => not " + literal + ";");
                } else {
                    wrongRule("rule r: ^" + literal + " => w;", WRONG);
                    wrongRule("rule r: w, not ^" + literal + " => w;", WRONG);
                    wrongRule("rule r: => ^" + literal + ";", WRONG);
                    wrongRule("bar r: w => not ^" + literal + ";", WRONG);
                }
            }
        }
    }

    private static void integersThatAreWrong() {
        Due.by("5 WRONG .. at an INT: PLACES above 2");
        right("word w 0; word v 1; word u 2;");
        wrong("word w ^3;", WRONG);
        wrong("word w ^999999;", WRONG);
        Due.by("5 WRONG .. at an INT: RANK above 9");
        right("law l rank 0 from 0; end law m rank 9 from 0; end");
        wrong("law l rank ^10 from 0; end", WRONG);
        wrong("law l rank ^999999 from 0; end", WRONG);
        Due.by("5 WRONG .. at an INT: behind '.' above 3");
        rightRule("take t: => s(a) + a.0 + a.1 + X.2 + X.3;");
        wrongRule("take t: => s(a) + a.^4;", WRONG);
        wrongRule("take t: => s(a) + X.^999999;", WRONG);
        wrongRule("rule r: if a.3 < X.^4 => w;", WRONG);
        Due.by("5 WRONG .. at an INT: behind '/' 0");
        rightRule("take t: => s(a) + 0/1 + 0/999999 + 1/000001;");
        wrongRule("take t: => s(a) + 1/^0;", WRONG);
        wrongRule("take t: => s(a) + 0/^000000;", WRONG);
        wrongRule("rule r: if 1/1 < 1/^0 => w;", WRONG);
        Due.by("5 WRONG .. at an INT: until not above from");
        right("law l rank 0 from 0 until 1; end law m rank 0 from 999998 until 999999; end");
        wrong("law l rank 0 from 0 until ^0; end", WRONG);
        wrong("law l rank 0 from 5 until ^5; end", WRONG);
        wrong("law l rank 0 from 5 until ^4; end", WRONG);
        wrong("law l rank 0 from 999999 until ^999999; end", WRONG);
        right("law l rank 0 from 999999; end");
    }

    private static void wrongOvers() {
        Due.by("5 WRONG .. at the second NAME of an over: a take (also at the first), the first one's");
        String code = "person p; word w 0; sum s; law l rank 0 from 0; rule a: => w; bar b: => w; take t: => s(p) + 1; "
            + "take z: => s(p) + 1; end ";
        Due.fault(Due.bench(code), "over a b; over b a;", NOTHING, -1);
        Due.faultAt(code, "over a ^a;", WRONG);
        Due.faultAt(code, "over b ^b;", WRONG);
        Due.faultAt(code, "over a ^t;", WRONG);
        Due.faultAt(code, "over ^t a;", WRONG);
        Due.faultAt(code, "over ^t z;", WRONG);
        Due.faultAt(code, "over ^t t;", WRONG);
        Due.faultAt(code, "over ^t x;", WRONG);
        Due.faultAt(code, "over ^x t;", NAME);
        Due.faultAt(code, "over ^x x;", NAME);
        Due.faultAt(code, "over a ^y; law m rank 0 from 0; take y: => s(p) + 1; end", WRONG);
        Due.faultAt(code, "over y ^y; law m rank 0 from 0; rule y: => w; end", WRONG);
    }

    private static void firstPlace() {
        Due.by("FAULTS, the first by its place");
        wrong("person a; person ^a; word w 3;", TWICE);
        wrong("word w ^3; person a; person a;", WRONG);
        wrong("law l rank ^10 from 0; rule r: => w; end", WRONG);
        wrong("law l rank 0 from 0; rule r: => ^w; end law m rank 10 from 0; end", NAME);
        wrong("word w 0; word v 1; law l rank 0 from 0; rule r: ^w(a) => v; end", WRONG);
        wrong("word w 0; word v 1; law l rank 0 from 0; rule r: v(^a) => v; end", NAME);
        wrong("over ^a b; person p; person p;", NAME);
        wrong("person p; person ^p; over a b;", TWICE);
        wrong(TWO + "over a ^a; over c d;", WRONG);
        wrong(TWO + "over ^c d; over a a;", NAME);
        wrong(TWO + "over b ^c; word w 3;", NAME);
        wrong("sum a; sum b; sum c; sum d; sum ^e; #", ROOM);
        wrong("^# sum a; sum b; sum c; sum d; sum e;", SYNTAX);
        wrong("sum a; sum b; sum c; sum d; sum ^e; person a; person b; person c; person d; person e; person f;", ROOM);
    }

    private static void leastOfOnePlace() {
        Due.by("of one place the least");
        String full = "sum a; sum b; sum c; sum d; ";
        // A 5th SUM that is told already; a 7th COND and a 21st over that are none; a 1,201st that is none.
        wrong(full + "sum ^a;", ROOM);
        Due.faultAt(full, "sum ^a;", ROOM);
        Due.faultAt(full, "sum ^7;", SYNTAX);
        wrongRule("rule r: w, w, w, w, w, w, ^end => w;", SYNTAX);
        wrongRule("rule r: w, w, w, w, w, w, ^x => w;", ROOM);
        Due.faultAt(TWO + "over a b; ".repeat(20), "^overs", SYNTAX);
        Due.faultAt(TWO + "over a b; ".repeat(20), "^over a a;", ROOM);
        Due.faultAt("", "over ^a a;", NAME);
    }

    private static void syntaxAndRoomFirst() {
        Due.by("If there is none, likewise: 3, 4, 5");
        wrong("person a; person a; ^#", SYNTAX);
        wrong("word w 3; law l rank 10 from 9 until 1; rule r: => x; end^;", SYNTAX);
        wrong("over a b; person a^", SYNTAX);
        wrong("person a; person a; sum a; sum b; sum c; sum d; sum ^e;", ROOM);
        wrong("over a b; word w 7; person a; person a; person a; person a; person a; person ^a;", ROOM);
        wrong("law l rank 0 from 0; rule r: x, x, x, x, x, x, ^x => x; end", ROOM);
        wrong("law l rank 0 from 0; rule r: x(A, B), x(C, ^D) => x; end", ROOM);
    }

    private static void faultsChangeNothing() {
        Due.by("A text with a FAULT changes nothing");
        String told = "person c; person d; word x 2; sum z; law m rank 7 from 1 until 9; rule q: v(X) => not v(X); "
            + "bar p: x(c, d) => w; take y: => s(a) + 3/4; end over q r; over p r; ";
        String[] faulty = {told + "#", told + "law", told + "law n rank 1 from 0; rule", told + "sum g; sum h; sum i; ",
            told + "person a;", told + "law n rank 0 from 0; rule x: => none; end", told + "word t 3;",
            told + "over q q;", told + "over q y;", told + "law n rank 0 from 2 until 2; end"};
        int[] faults = {SYNTAX, SYNTAX, SYNTAX, ROOM, TWICE, NAME, WRONG, WRONG, WRONG, WRONG};
        for (int i = 0; i < faulty.length; i++) {
            String text = faulty[i];
            int fault = faults[i];
            Twins.alike(text, EdgesOfTextsTest::someCode, bench -> {
                Due.is("read of " + text, Due.read(bench, text), fault);
                // The place of the latest fault goes with a text that has none.
                bench.read();
            });
            // Nor does what it told show in RULES of a later text.
            Twins.alike(text + " ahead of another text", EdgesOfTextsTest::someCode,
                bench -> Due.read(bench, text), EdgesOfTextsTest::otherCode);
        }
    }

    private static void otherCode(StatuteBench bench) {
        Due.is("read of other code", Due.read(bench, "sum y; word h 0; person f; law i rank 0 from 0; "
            + "rule j: w => not h; take k: w, if 1 < 2 => y(f) + 2 * 3; bar m: if f.0 == 0, h => w; end over m r;"), 0);
        bench.number(0, 1, 5);
        bench.testify(0, true, 0, 0, 0, 9, 9);
    }

    private static void someCode(StatuteBench bench) {
        Due.read(bench, ALL + LAW + "rule r: v(X) => w; take t: v(X) => s(X) + X.0; rule g: => v(b); end");
        bench.testify(1, true, 0, 0, 0, 9, 3);
        bench.number(0, 0, 7);
        bench.judge(0, 0);
        bench.text();
    }

    private static void numbersFromNothing() {
        Due.by("PERSONS, WORDS, SUMS, LAWS, RULES are numbered from 0 on, as they are told");
        StatuteBench bench = Due.bench("sum s0; word w0 0; person p0; law l0 rank 3 from 0; rule r0: => w0; end "
            + "sum s1; word w1 1; person p1; law l1 rank 4 from 0; take r1: => s1(p1) + 5; "
            + "bar r2: => not w1(p0); end");
        Due.fault(bench, "law l9 rank 9 from 0; rule r9: => w0; end word w9 3;", WRONG, 50);
        Due.fault(bench, "word w2 0; law l2 rank 5 from 0; rule r3: => not w2; end", NOTHING, -1);
        int[][] due = {{0, 0, 0, 0, 0, 1}, {1, 2, 0, 0, 1, 1}, {1, 1, 0, 0, 1, 0}, {2, 0, 0, 0, 2, 0}};
        for (int r = 0; r < due.length; r++) {
            for (int what = 0; what < due[r].length; what++) {
                Due.is("rule(" + r + ", " + what + ")", bench.rule(r, what), due[r][what]);
            }
        }
        for (int l = 0; l < 3; l++) {
            Due.is("rank of law " + l, bench.law(l, 0), 3 + l);
        }
        bench.judge(0, 0);
        Due.is("sum 1 of person 1", bench.sum(1, 1, 0), 5);
        Due.is("rule 4", bench.rule(4, 0), -1);
        Due.is("law 3", bench.law(3, 0), -1);
    }

    private static void dayOfLaws() {
        Due.by("its LAWS being MADE on the CLOCK's DAY");
        StatuteBench bench = Due.bench("law a rank 0 from 7; end");
        bench.clock(999998);
        Due.is("read", Due.read(bench, "law b rank 0 from 7; end law c rank 0 from 9; end"), 0);
        bench.clock(999999);
        Due.is("read", Due.read(bench, "law d rank 0 from 7; end"), 0);
        int[] due = {0, 999998, 999998, 999999};
        for (int l = 0; l < due.length; l++) {
            Due.is("day of law " + l, bench.law(l, 1), due[l]);
        }
    }
}
