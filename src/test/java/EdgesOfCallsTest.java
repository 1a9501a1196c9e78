import java.util.function.Consumer;

/** The edges of promises 1 to 18, sentence by sentence: the last that is taken, the first that is refused. */
public final class EdgesOfCallsTest {
    private static final int NONE = -1;
    private static final int MIN = Integer.MIN_VALUE;
    private static final int MAX = Integer.MAX_VALUE;
    private static final int LAST_DAY = 999999;
    private static final int BLANKS = 0x20202020;

    // None of these is the number of anything; times 5 and times 50 the last two are 4, wrapped around.
    private static final int[] STRANGE = {MIN, MIN + 1, -1000, -2, -1, 1000, MAX - 1, MAX, 858993460, 85899346};

    // Three persons; words of no, one and two places; two sums; two laws; RULES 0 .. 2 and 3, 4.
    private static final String CODE = "person a; person b; person c; word w 0; word v 1; word u 2; sum s; sum z; "
        + "law l rank 1 from 2 until 8; rule r: v(X) => w; bar q: u(X, Y) => not w; "
        + "take t: v(X) => s(X) + X.0 * 1/2; end "
        + "law k rank 2 from 0; rule p: v(X), other X Y, other Y Z, same Z a => u(Y, Z); "
        + "rule o: u(a, a) => u(a, a); end ";

    public static void main(String[] args) {
        newObject();
        bytesOfFeed();
        mostBytes();
        refusedFeed();
        bytesBack();
        refusedBack();
        tapeBehindRead();
        answersOfRead();
        placeOfRead();
        daysOfClock();
        refusedClock();
        numbersOfTestimonies();
        placesOfTestimonies();
        mostTestimonies();
        wordsAndPersonsOfTestimonies();
        timesOfTestimonies();
        weightsOfTestimonies();
        numbers();
        refusedNumbers();
        numbersAtFirst();
        daysOfJudge();
        refusedJudge();
        toldLater();
        statuses();
        statusesThatAreNone();
        whatOfWhy();
        whyThatIsNone();
        sums();
        sumsThatAreNone();
        lengthOfText();
        mostBytesKept();
        outBytes();
        rules();
        laws();
        above();
        counts();
        countsAsJudged();
        lastCall();
        Due.end();
    }

    private static void told(StatuteBench bench) {
        Due.read(bench, CODE);
        bench.testify(1, true, 1, 0, 0, 9, 3);
        bench.number(1, 0, 7);
    }

    private static void judged(StatuteBench bench) {
        told(bench);
        bench.judge(0, 3);
        bench.text();
        Due.feed(bench, "person d;");
    }

    private static StatuteBench behind(Consumer<StatuteBench> calls) {
        StatuteBench bench = new StatuteBench();
        calls.accept(bench);
        return bench;
    }

    private static void newObject() {
        Due.by("1: No CODE, no testimonies; the CLOCK's DAY is 0");
        StatuteBench bench = new StatuteBench();
        for (int what = 0; what <= 12; what++) {
            Due.is("count(" + what + ")", bench.count(what), 0);
        }
        Due.is("clock(-1)", bench.clock(-1), false);
        Due.is("clock(0)", bench.clock(0), true);
        Due.is("rule(0, 0)", bench.rule(0, 0), NONE);
        Due.is("law(0, 0)", bench.law(0, 0), NONE);
        Due.is("above(0, 0)", bench.above(0, 0), NONE);
        Due.is("testify", bench.testify(0, true, 0, 0, 0, 1, 1), NONE);
        Due.is("number", bench.number(0, 0, 0), false);
        Due.is("the tape", bench.back(1), NONE);
        behind(EdgesOfCallsTest::judged);
        Due.is("another object is another one", bench.count(0), 0);
    }

    private static void bytesOfFeed() {
        Due.by("2: Twenty bytes, the highest of a first, come behind the tape: how many it has");
        for (int i = 0; i < 20; i++) {
            for (int stray : new int[] {0, 1, 127, 128, 255}) {
                int[] five = {BLANKS, BLANKS, BLANKS, BLANKS, BLANKS};
                int shift = 24 - i % 4 * 8;
                five[i / 4] = BLANKS & ~(255 << shift) | stray << shift;
                StatuteBench bench = new StatuteBench();
                Due.is("the first feed", bench.feed(BLANKS, BLANKS, BLANKS, BLANKS, BLANKS), 20);
                Due.is("the second feed", bench.feed(five[0], five[1], five[2], five[3], five[4]), 40);
                Due.is("read() of byte " + stray + " at " + i, bench.read(), 1);
                Due.is("place() of byte " + stray + " at " + i, bench.place(), 20 + i);
            }
        }
        StatuteBench order = new StatuteBench();
        // person abcdefgh;sum: the text goes on with the second row.
        Due.is("feed", order.feed(0x70657273, 0x6f6e2061, 0x62636465, 0x6667683b, 0x73756d20), 20);
        Due.is("feed", order.feed(0x78303132, 0x33343536, 0x37383b20, BLANKS, BLANKS), 40);
        Due.is("read()", order.read(), 0);
        Due.is("a person", order.count(0), 1);
        Due.is("a sum", order.count(2), 1);
    }

    private static void blankRows(StatuteBench bench, int rows) {
        for (int i = 0; i < rows; i++) {
            bench.feed(BLANKS, BLANKS, BLANKS, BLANKS, BLANKS);
        }
    }

    private static void mostBytes() {
        Due.by("2: NONE .. if it would have more than 4,000");
        for (int fewer = 0; fewer <= 21; fewer++) {
            StatuteBench bench = new StatuteBench();
            blankRows(bench, 200);
            Due.is("200 rows", bench.count(8), 4000);
            Due.is("back", bench.back(fewer), 4000 - fewer);
            int due = fewer < 20 ? NONE : 4020 - fewer;
            Due.is("feed behind " + (4000 - fewer), bench.feed(BLANKS, BLANKS, BLANKS, BLANKS, BLANKS), due);
            Due.is("bytes then", bench.count(8), fewer < 20 ? 4000 - fewer : due);
        }
    }

    private static void refusedFeed() {
        Due.by("2: NONE, and nothing comes");
        StatuteBench bench = new StatuteBench();
        Due.feed(bench, "person a; ".repeat(2) + " ".repeat(3961));
        Due.is("feed behind 3,981", bench.feed(0, 0, 0, 0, 0), NONE);
        Due.is("bytes", bench.count(8), 3981);
        Due.is("read() of what was there", bench.read(), 3);
        Due.is("place()", bench.place(), 17);
        Twins.alike("feed", full -> blankRows(full, 200), full -> full.feed(-1, -1, -1, -1, -1));
    }

    private static void bytesBack() {
        Due.by("3: The last n bytes of the tape go: how many it has");
        StatuteBench bench = new StatuteBench();
        Due.is("back(0) of nothing", bench.back(0), 0);
        Due.feed(bench, "person a; person b;#");
        Due.is("back(0)", bench.back(0), 20);
        Due.is("back(1)", bench.back(1), 19);
        Due.is("count(8)", bench.count(8), 19);
        Due.is("read() without it", bench.read(), 0);
        Due.is("persons", bench.count(0), 2);
        blankRows(bench, 200);
        Due.is("all of 4,000", bench.back(4000), 0);
        Due.is("then nothing", bench.back(0), 0);
        Due.is("then one", bench.back(1), NONE);
        Due.is("a row behind it", bench.feed(BLANKS, BLANKS, BLANKS, BLANKS, BLANKS), 20);
        Due.is("19 of 20", bench.back(19), 1);
        Due.is("the last one", bench.back(1), 0);
    }

    private static void refusedBack() {
        Due.by("3: NONE, and nothing goes, if it has not so many, or n is below 0");
        StatuteBench bench = new StatuteBench();
        Due.is("back(1) of nothing", bench.back(1), NONE);
        Due.is("back(-1) of nothing", bench.back(-1), NONE);
        Due.feed(bench, "person a;");
        for (int n : new int[] {10, 11, 4000, MAX, -1, -9, MIN}) {
            Due.is("back(" + n + ") of 9", bench.back(n), NONE);
            Due.is("bytes behind back(" + n + ")", bench.count(8), 9);
            Twins.alike("back(" + n + ")", EdgesOfCallsTest::judged, other -> other.back(n));
        }
        Due.is("read()", bench.read(), 0);
        Due.is("persons", bench.count(0), 1);
    }

    private static void tapeBehindRead() {
        Due.by("4: The tape, which is empty then, is read");
        for (String text : new String[] {"", " ", "person a;", "#", "person a; person a;", "person a"}) {
            StatuteBench bench = new StatuteBench();
            Due.read(bench, text);
            Due.is("bytes behind [" + text + "]", bench.count(8), 0);
            Due.is("back(1)", bench.back(1), NONE);
            Due.is("read() of nothing", bench.read(), 0);
            Due.is("feed behind it", bench.feed(BLANKS, BLANKS, BLANKS, BLANKS, BLANKS), 20);
            Due.is("read() of blanks", bench.read(), 0);
        }
    }

    private static void answersOfRead() {
        Due.by("4: 0, or the number of its FAULT");
        String[] texts = {"", "#", "sum a; sum b; sum c; sum d; sum e;", "sum a; sum a;", "over a b;", "word w 3;"};
        for (int fault = 0; fault < texts.length; fault++) {
            Due.is("read() of " + texts[fault], Due.read(new StatuteBench(), texts[fault]), fault);
        }
    }

    private static void placeOfRead() {
        Due.by("5: The byte of the latest read()'s FAULT; NONE without");
        StatuteBench bench = new StatuteBench();
        Due.is("place() ahead of all", bench.place(), NONE);
        Due.fault(bench, "#", 1, 0);
        Due.feed(bench, "person a; person a;");
        Due.is("the tape alone changes nothing", bench.place(), 0);
        bench.back(10);
        bench.clock(3);
        bench.judge(0, 0);
        Due.is("nor do others", bench.place(), 0);
        Due.is("read()", bench.read(), 0);
        Due.is("place() without a FAULT", bench.place(), NONE);
        Due.fault(bench, "person b; person a;", 3, 17);
        Due.fault(bench, " ".repeat(3999) + "#", 1, 3999);
        Due.fault(bench, " ".repeat(3994) + "person", 1, 4000);
        Due.fault(bench, "", 0, NONE);
    }

    private static void daysOfClock() {
        Due.by("6: The CLOCK's DAY is that: true; false, if it is below the CLOCK's, or above 999999");
        StatuteBench bench = new StatuteBench();
        int[] days = {0, -1, 1, 0, 1, MIN, 5, 4, LAST_DAY + 1, MAX, LAST_DAY - 1, LAST_DAY - 2, LAST_DAY, LAST_DAY,
            LAST_DAY + 1, 0};
        int day = 0;
        for (int next : days) {
            boolean due = next >= day && next <= LAST_DAY;
            Due.is("clock(" + next + ") on " + day, bench.clock(next), due);
            day = due ? next : day;
            Due.is("the day behind clock(" + next + ")", bench.count(7), day);
        }
        Due.is("the last day", bench.count(7), LAST_DAY);
    }

    private static void refusedClock() {
        Due.by("6: false");
        for (int day : new int[] {4, 0, -1, MIN, LAST_DAY + 1, MAX}) {
            Consumer<StatuteBench> calls = bench -> {
                bench.clock(5);
                judged(bench);
            };
            Twins.alike("clock(" + day + ")", calls, bench -> bench.clock(day));
        }
    }

    private static void numbersOfTestimonies() {
        Due.by("7: A testimony: its number");
        StatuteBench bench = behind(EdgesOfCallsTest::told);
        Due.is("the second", bench.testify(1, true, 1, 0, 0, 9, 3), 1);
        Due.is("a refused one", bench.testify(9, true, 1, 0, 0, 9, 3), NONE);
        Due.is("the third", bench.testify(2, false, 2, 2, 0, 9, 3), 2);
        Due.is("there are three", bench.count(6), 3);
    }

    private static void placesOfTestimonies() {
        Due.by("7: a, b: PERSONS of the WORD's PLACES (others are not looked at)");
        for (int strange : STRANGE) {
            StatuteBench bench = behind(EdgesOfCallsTest::told);
            Due.is("no PLACES: a, b are " + strange, bench.testify(0, true, strange, strange, 0, 1, 3), 1);
            Due.is("one PLACE: b is " + strange, bench.testify(1, true, 2, strange, 0, 1, 3), 2);
            Due.is("one PLACE: a is " + strange, bench.testify(1, true, strange, 0, 0, 1, 3), NONE);
            Due.is("two PLACES: a is " + strange, bench.testify(2, true, strange, 0, 0, 1, 3), NONE);
            Due.is("two PLACES: b is " + strange, bench.testify(2, true, 0, strange, 0, 1, 3), NONE);
            bench.judge(0, 0);
            Due.is("the first is heard", bench.status(0, true, 0, 0), 1);
            Due.is("the second is heard", bench.status(1, true, 2, 0), 1);
        }
    }

    private static void refusedTestimony(int word, int a, int b, int[] rest) {
        String name = "testify(" + word + ", .., " + a + ", " + b + ", " + java.util.Arrays.toString(rest) + ")";
        Twins.alike(name, EdgesOfCallsTest::judged, bench ->
            Due.is(name, bench.testify(word, true, a, b, rest[0], rest[1], rest[2]), NONE));
    }

    private static void takenTestimony(int word, int a, int b, int[] rest) {
        StatuteBench bench = behind(EdgesOfCallsTest::told);
        String name = "testify(" + word + ", .., " + a + ", " + b + ", " + java.util.Arrays.toString(rest) + ")";
        Due.is(name, bench.testify(word, true, a, b, rest[0], rest[1], rest[2]), 1);
        Due.is("there behind " + name, bench.count(6), 2);
    }

    private static void mostTestimonies() {
        Due.by("7: NONE, and nothing happens: 100 are there");
        Consumer<StatuteBench> hundred = bench -> {
            told(bench);
            for (int i = 1; i < 100; i++) {
                Due.is("testimony " + i, bench.testify(2, false, 2, 1, 0, 9, 1), i);
            }
        };
        Twins.alike("the 101st", hundred, bench -> Due.is("it", bench.testify(0, true, 0, 0, 0, 9, 9), NONE));
    }

    private static void wordsAndPersonsOfTestimonies() {
        Due.by("7: NONE, and nothing happens: .. no such WORD or PERSON");
        int[] rest = {0, 9, 3};
        takenTestimony(0, 0, 0, rest);
        takenTestimony(2, 0, 0, rest);
        takenTestimony(2, 2, 2, rest);
        takenTestimony(1, 2, 3, rest);
        for (int word : new int[] {-1, 3, MIN, MAX}) {
            refusedTestimony(word, 0, 0, rest);
        }
        for (int person : new int[] {-1, 3, MIN, MAX}) {
            refusedTestimony(1, person, 0, rest);
            refusedTestimony(2, person, 0, rest);
            refusedTestimony(2, 0, person, rest);
        }
        StatuteBench nobody = Due.bench("word w 0; word v 1;");
        Due.is("a WORD without PLACES and no PERSONS", nobody.testify(0, true, 0, 0, 0, 1, 1), 0);
        Due.is("a WORD with a PLACE and no PERSONS", nobody.testify(1, true, 0, 0, 0, 1, 1), NONE);
        // The last that there is room for.
        StatuteBench full = Due.bench("person a; person b; person c; person d; person e; "
            + "word w0 2; word w1 2; word w2 2; word w3 2; word w4 2; word w5 2; word w6 2; word w7 2; "
            + "word w8 2; word w9 2; word wa 2; word wb 2;");
        Due.is("the last LITERAL", full.testify(11, false, 4, 4, 0, 1, 3), 0);
        Due.is("a 13th WORD", full.testify(12, false, 4, 4, 0, 1, 3), NONE);
        Due.is("a 6th PERSON", full.testify(11, false, 5, 4, 0, 1, 3), NONE);
        Due.is("a 6th PERSON again", full.testify(11, false, 4, 5, 0, 1, 3), NONE);
        Due.is("judge", full.judge(0, 0), 1);
        Due.is("the last LITERAL is PROVED", full.status(11, false, 4, 4), 1);
    }

    private static void timesOfTestimonies() {
        Due.by("7: NONE, and nothing happens: .. from is not 0 .. until - 1, until above 1000000");
        int[][] taken = {{0, 1}, {0, 1000000}, {999999, 1000000}, {7, 8}};
        for (int[] t : taken) {
            takenTestimony(0, 0, 0, new int[] {t[0], t[1], 1});
        }
        int[][] refused = {{-1, 1}, {-1, 1000000}, {0, 0}, {8, 8}, {9, 8}, {0, 1000001}, {1000000, 1000001},
            {1000000, 1000000}, {0, MAX}, {0, MIN}, {MIN, MAX}, {MIN, MIN}, {MAX, MIN}, {MAX, MAX}, {-2, -1}, {0, -1}};
        for (int[] t : refused) {
            refusedTestimony(0, 0, 0, new int[] {t[0], t[1], 1});
        }
    }

    private static void weightsOfTestimonies() {
        Due.by("7: NONE, and nothing happens: .. no such weight (1 .. 9)");
        for (int weight = 1; weight <= 9; weight++) {
            takenTestimony(0, 0, 0, new int[] {0, 1, weight});
        }
        for (int weight : new int[] {0, -1, 10, MIN, MAX}) {
            refusedTestimony(0, 0, 0, new int[] {0, 1, weight});
        }
    }

    private static void numbers() {
        Due.by("8: NUMBER k (0 .. 3) of a PERSON becomes v (-999999 .. 999999 .. ): true");
        StatuteBench bench = Due.bench("person a; person b; person c; person d; person e; sum s; sum z; sum x; sum y; "
            + "law l rank 0 from 0; take p: => s(X) + X.0; take q: => z(X) + X.1; take r: => x(X) + X.2; "
            + "take t: => y(X) + X.3; end");
        int[] values = {999999, -999999, 0, 1, -1};
        for (int person = 0; person < 5; person++) {
            for (int k = 0; k < 4; k++) {
                int v = values[(person + k) % 5];
                Due.is("number(" + person + ", " + k + ", " + v + ")", bench.number(person, k, v), true);
            }
        }
        bench.judge(0, LAST_DAY);
        for (int person = 0; person < 5; person++) {
            for (int k = 0; k < 4; k++) {
                Due.is("NUMBER " + k + " of " + person, bench.sum(k, person, 0), values[(person + k) % 5]);
            }
        }
        Due.is("once more", bench.number(4, 3, 5), true);
        Due.is("as it was judged", bench.sum(3, 4, 0), values[2]);
        bench.judge(LAST_DAY, 0);
        Due.is("the same for all DAYS", bench.sum(3, 4, 0), 5);
    }

    private static void refusedNumbers() {
        Due.by("8: false for others");
        int[][] refused = {{3, 0, 1}, {-1, 0, 1}, {5, 0, 1}, {MIN, 0, 1}, {MAX, 0, 1}, {1073741824, 0, 1}, {1, 4, 1},
            {1, -1, 1},
            {0, 4, 1}, {0, MIN, 1}, {0, MAX, 1}, {1, 0, 1000000}, {1, 0, -1000000}, {1, 0, MIN}, {1, 0, MAX}};
        for (int[] n : refused) {
            String name = "number(" + n[0] + ", " + n[1] + ", " + n[2] + ")";
            Twins.alike(name, EdgesOfCallsTest::judged, bench -> Due.is(name, bench.number(n[0], n[1], n[2]), false));
        }
    }

    private static void numbersAtFirst() {
        Due.by("8: 0 at first");
        StatuteBench bench = Due.bench("person a; sum s; law l rank 0 from 0; "
            + "take t: => s(X) + X.0 + X.1 + X.2 + X.3; end");
        Due.is("number", bench.number(0, 3, 5), true);
        Due.is("a faulty text", Due.read(bench, "person b; #"), 1);
        Due.is("number of its PERSON", bench.number(1, 0, 9), false);
        Due.is("a text", Due.read(bench, "person b;"), 0);
        bench.judge(0, 0);
        Due.is("of a", bench.sum(0, 0, 0), 5);
        Due.is("of b", bench.sum(0, 1, 0), 0);
    }

    private static void daysOfJudge() {
        Due.by("9: how many LITERALS are PROVED. NONE .. a DAY is not 0 .. 999999");
        int[] taken = {0, 1, LAST_DAY - 1, LAST_DAY};
        int[] refused = {-1, LAST_DAY + 1, MIN, MAX};
        StatuteBench bench = Due.bench("word w 0; law l rank 0 from 0; rule r: => w; end");
        for (int day : taken) {
            Due.is("judge(" + day + ", 0)", bench.judge(day, 0), 1);
            Due.is("judge(0, " + day + ")", bench.judge(0, day), 1);
            Due.is("judge(" + day + ", " + day + ")", bench.judge(day, day), 1);
        }
        for (int day : refused) {
            Due.is("judge(" + day + ", 0)", bench.judge(day, 0), NONE);
            Due.is("judge(0, " + day + ")", bench.judge(0, day), NONE);
            Due.is("judge(" + day + ", " + day + ")", bench.judge(day, day), NONE);
        }
    }

    private static void refusedJudge() {
        Due.by("9: NONE, and what was judged stays");
        int[][] refused = {{-1, 0}, {0, -1}, {LAST_DAY + 1, 9}, {9, LAST_DAY + 1}, {MIN, MAX}};
        for (int[] days : refused) {
            String name = "judge(" + days[0] + ", " + days[1] + ")";
            Consumer<StatuteBench> judge = bench -> Due.is(name, bench.judge(days[0], days[1]), NONE);
            Twins.alike(name + " behind a judgment", EdgesOfCallsTest::judged, judge);
            Twins.alike(name + " without one", EdgesOfCallsTest::told, judge);
            Consumer<StatuteBench> toldMore = bench -> {
                judged(bench);
                bench.testify(0, false, 0, 0, 0, 9, 9);
                bench.number(1, 0, 99);
            };
            Twins.alike(name + " with more told", toldMore, judge);
        }
        StatuteBench bench = behind(EdgesOfCallsTest::told);
        Due.is("judge", bench.judge(-1, 0), NONE);
        Due.is("nothing is judged", bench.status(0, true, 0, 0), NONE);
        Due.is("nothing is written", bench.text(), NONE);
    }

    private static String judgedAnswers(StatuteBench bench) {
        StringBuilder all = new StringBuilder();
        for (int what = 9; what <= 12; what++) {
            all.append(' ').append(bench.count(what));
        }
        for (int word = 0; word < 3; word++) {
            for (int person = 0; person < 3; person++) {
                all.append(' ').append(bench.status(word, true, person, 0));
                all.append(' ').append(bench.status(word, false, 0, person));
                for (int what = 0; what <= 4; what++) {
                    all.append(' ').append(bench.why(word, true, person, 0, what));
                }
            }
        }
        for (int person = 0; person < 3; person++) {
            all.append(' ').append(bench.sum(0, person, 0)).append('/').append(bench.sum(0, person, 1));
            all.append(' ').append(bench.sum(0, person, 2)).append(' ').append(bench.sum(1, person, 3));
        }
        int length = bench.text();
        all.append(' ').append(length).append(' ').append(bench.out(0)).append(' ').append(bench.out(length - 1));
        return all.toString();
    }

    private static void toldLater() {
        Due.by("9: What is told later does not change what was judged");
        StatuteBench bench = behind(EdgesOfCallsTest::judged);
        String ahead = judgedAnswers(bench);
        Due.is("read() of a PERSON", bench.read(), 0);
        Due.is("a PERSON more", judgedAnswers(bench), ahead);
        Due.is("LAWS more", Due.read(bench, "person e; word x 1; law n rank 9 from 0; bar nb: => not w; "
            + "rule nr: => x(X); take nt: => z(X) + 1; end over nb r;"), 0);
        Due.is("LAWS and overs more", judgedAnswers(bench), ahead);
        bench.testify(1, false, 1, 0, 0, 9, 9);
        bench.testify(0, false, 0, 0, 0, 9, 9);
        bench.number(1, 0, 999);
        bench.clock(9);
        Due.is("testimonies, NUMBERS and DAYS more", judgedAnswers(bench), ahead);
        Due.is("a PERSON told later", bench.status(1, true, 3, 0), NONE);
        Due.is("why of it", bench.why(1, true, 3, 0, 0), NONE);
        Due.is("a SUM of it", bench.sum(0, 3, 0), NONE);
        Due.is("a WORD told later", bench.status(3, true, 0, 0), NONE);
        bench.judge(9, 3);
        Due.is("it is judged then", bench.status(3, true, 4, 0), 1);
    }

    private static void statuses() {
        Due.by("10: Of a LITERAL as it was judged: 1 PROVED, 0 REFUTED, 2 OPEN");
        StatuteBench bench = behind(EdgesOfCallsTest::judged);
        Due.is("PROVED", bench.status(1, true, 1, 0), 1);
        Due.is("REFUTED", bench.status(1, false, 1, 0), 0);
        Due.is("OPEN", bench.status(2, true, 0, 0), 2);
        int[] many = new int[3];
        for (int i = 0; i < 26; i++) {
            // v of three, u of nine, w of nobody.
            int word = i / 2 < 1 ? 0 : i / 2 < 4 ? 1 : 2;
            int first = word == 1 ? i / 2 - 1 : word == 2 ? (i / 2 - 4) / 3 : 0;
            many[bench.status(word, i % 2 == 0, first, word == 2 ? (i / 2 - 4) % 3 : 0)]++;
        }
        Due.is("PROVED: v(b) and u(c, a)", many[1], 2);
        Due.is("OPEN: u(a, a)", many[2], 1);
        Due.is("REFUTED: all others", many[0], 23);
    }

    private static void statusesThatAreNone() {
        Due.by("10: NONE: no such one, or nothing is judged. (a, b: as in testify().)");
        StatuteBench unjudged = behind(EdgesOfCallsTest::told);
        Due.is("nothing is judged", unjudged.status(0, true, 0, 0), NONE);
        StatuteBench bench = behind(EdgesOfCallsTest::judged);
        Due.is("the last of all", bench.status(2, false, 2, 2) != NONE, true);
        Due.is("WORD 3", bench.status(3, true, 0, 0), NONE);
        Due.is("PERSON 3 as a", bench.status(1, true, 3, 0), NONE);
        Due.is("PERSON 3 as a of two", bench.status(2, true, 3, 0), NONE);
        Due.is("PERSON 3 as b", bench.status(2, true, 0, 3), NONE);
        for (int strange : STRANGE) {
            Due.is("WORD " + strange, bench.status(strange, true, 0, 0), NONE);
            Due.is("one PLACE: a is " + strange, bench.status(1, true, strange, 0), NONE);
            Due.is("two PLACES: a is " + strange, bench.status(2, false, strange, 0), NONE);
            Due.is("two PLACES: b is " + strange, bench.status(2, true, 0, strange), NONE);
            Due.is("no PLACES: a, b are " + strange, bench.status(0, true, strange, strange), 0);
            Due.is("one PLACE: b is " + strange, bench.status(1, true, 1, strange), 1);
        }
    }

    private static void whatOfWhy() {
        Due.by("11: WHY of it: what 0: 0 a FACT, 1 an INSTANCE, 2 nothing (REFUTED), 3 it is OPEN; "
            + "1: the INSTANCE's RULE; 2 .. 4: the PERSON of its first, second, third VAR (NONE without)");
        StatuteBench bench = Due.bench("person a; person b; person c; "
            + "word w 0; word v 0; word u 0; word t 0; word o 0; word f 0; word n 0; "
            + "law l rank 0 from 0; rule r: => w; rule q: same X b => v; rule p: same X b, same Y c => u; "
            + "rule m: same X b, same Y c, same Z b => t; rule k: o => o; bar j: same X c => not n; rule i: => n; end");
        bench.testify(5, true, 0, 0, 0, 9, 3);
        bench.judge(0, 0);
        int[][] due = {{1, 0, NONE, NONE, NONE}, {1, 1, 1, NONE, NONE}, {1, 2, 1, 2, NONE}, {1, 3, 1, 2, 1},
            {3, NONE, NONE, NONE, NONE}, {0, NONE, NONE, NONE, NONE}, {1, 5, 2, NONE, NONE}};
        int[][] opposite = {{1, 0, NONE, NONE, NONE}, {1, 1, 1, NONE, NONE}, {1, 2, 1, 2, NONE}, {1, 3, 1, 2, 1},
            {2, NONE, NONE, NONE, NONE}, {0, NONE, NONE, NONE, NONE}, {1, 6, NONE, NONE, NONE}};
        for (int word = 0; word < due.length; word++) {
            for (int what = 0; what <= 4; what++) {
                Due.is("why(" + word + ", true, .., " + what + ")", bench.why(word, true, 0, 0, what), due[word][what]);
                Due.is("why(" + word + ", false, .., " + what + ")", bench.why(word, false, 0, 0, what),
                    opposite[word][what]);
            }
            for (int what : new int[] {-1, 5, 6, 7, MIN, MIN + 1, MAX}) {
                Due.is("why(" + word + ", true, .., " + what + ")", bench.why(word, true, 0, 0, what), NONE);
            }
        }
    }

    private static void whyThatIsNone() {
        Due.by("11: NONE as status()");
        StatuteBench unjudged = behind(EdgesOfCallsTest::told);
        StatuteBench bench = behind(EdgesOfCallsTest::judged);
        for (int what = 0; what <= 4; what++) {
            Due.is("nothing is judged", unjudged.why(0, true, 0, 0, what), NONE);
            Due.is("WORD 3", bench.why(3, true, 0, 0, what), NONE);
            Due.is("PERSON 3 as a", bench.why(1, true, 3, 0, what), NONE);
            Due.is("PERSON 3 as b", bench.why(2, true, 0, 3, what), NONE);
        }
        for (int strange : STRANGE) {
            Due.is("WORD " + strange, bench.why(strange, true, 0, 0, 0), NONE);
            Due.is("one PLACE: a is " + strange, bench.why(1, true, strange, 0, 0), NONE);
            Due.is("two PLACES: a is " + strange, bench.why(2, false, strange, 0, 0), NONE);
            Due.is("two PLACES: b is " + strange, bench.why(2, true, 0, strange, 0), NONE);
            Due.is("no PLACES: a, b are " + strange, bench.why(0, true, strange, strange, 0), 1);
            Due.is("one PLACE: b is " + strange, bench.why(1, true, 1, strange, 0), 0);
        }
    }

    private static void sums() {
        Due.by("12: what 0: the upper, 1: the lower part (0 / 1 without an INSTANCE); 2: how many INSTANCES; "
            + "3: 1 if it is BROKEN (0 and 1 are 0 then), else 0");
        StatuteBench bench = Due.bench("person a; person b; sum s; sum z; law l rank 0 from 0; "
            + "take t: => s(a) + 3/4; take u: => s(a) * -2; take v: => z(b) + 100000 * 10000; "
            + "take x: => z(a) + 100000 * 10000 + 1; end");
        bench.judge(0, 0);
        long[][] due = {{-3, 2, 2, 0}, {0, 1, 0, 0}, {0, 0, 1, 1}, {1000000000, 1, 1, 0}};
        for (int s = 0; s < 2; s++) {
            for (int person = 0; person < 2; person++) {
                for (int what = 0; what <= 3; what++) {
                    Due.is("sum(" + s + ", " + person + ", " + what + ")", bench.sum(s, person, what), due[s * 2
                        + person][what]);
                }
            }
        }
        bench.judge(0, 1);
        Due.is("judged again", bench.sum(0, 0, 2), 2);
    }

    private static void sumsThatAreNone() {
        Due.by("12: NONE: none such, or nothing is judged");
        StatuteBench unjudged = behind(EdgesOfCallsTest::told);
        StatuteBench bench = behind(EdgesOfCallsTest::judged);
        for (int what = 0; what <= 3; what++) {
            Due.is("nothing is judged", unjudged.sum(0, 0, what), NONE);
            Due.is("SUM 2", bench.sum(2, 0, what), NONE);
            Due.is("PERSON 3", bench.sum(0, 3, what), NONE);
            Due.is("the last one", bench.sum(1, 2, what), what == 1 ? 1 : 0);
        }
        for (int what : new int[] {-1, 4, MIN, MAX}) {
            Due.is("what " + what, bench.sum(0, 0, what), NONE);
        }
        for (int strange : STRANGE) {
            Due.is("SUM " + strange, bench.sum(strange, 0, 0), NONE);
            Due.is("PERSON " + strange, bench.sum(0, strange, 0), NONE);
        }
    }

    private static void lengthOfText() {
        Due.by("13: THE JUDGMENT of what was judged is OUT (empty at first) .. NONE if nothing is judged");
        StatuteBench bench = Due.bench("word w 0; law l rank 0 from 0 until 5; rule r: => w; end");
        Due.is("OUT at first", bench.out(0), NONE);
        Due.is("nothing is judged", bench.text(), NONE);
        Due.is("OUT still", bench.out(0), NONE);
        bench.judge(0, 4);
        Due.is("OUT behind judge()", bench.out(0), NONE);
        Due.is("text()", bench.text(), 7);
        Due.is("OUT's first byte", bench.out(0), 'w');
        Due.is("OUT's last byte", bench.out(6), 10);
        Due.is("behind it", bench.out(7), NONE);
        bench.judge(0, 5);
        Due.is("OUT behind another judge()", bench.out(6), 10);
        Due.is("text() of nothing", bench.text(), 0);
        Due.is("OUT is empty", bench.out(0), NONE);
        bench.judge(0, 0);
        Due.is("text() again", bench.text(), 7);
        Due.is("and once more", bench.text(), 7);
        Due.is("OUT's last byte again", bench.out(6), 10);
    }

    private static final String[] NAMES = {"aaa", "bbb", "ccc", "ddd", "eee"};

    /** 100 LITERALS, each with a line of 38 bytes, and 10 SUMS, each with a line of 17 and the digits of a NUMBER. */
    private static StatuteBench manyLines() {
        StringBuilder text = new StringBuilder("sum ssssssssss; sum zzzzzzzzzz; ");
        for (String name : NAMES) {
            text.append("person ").append(name).append("; ");
        }
        for (int i = 0; i < 4; i++) {
            text.append("word wwwwwwwww").append(i).append(" 2; ");
        }
        text.append("law l rank 0 from 0; take t: => ssssssssss(X) + X.0; take u: => zzzzzzzzzz(X) + X.1; ");
        for (int i = 0; i < 4; i++) {
            text.append("rule rrrrrrrrr").append(i).append(": => not wwwwwwwww").append(i).append("(X, Y); ");
        }
        StatuteBench bench = Due.bench(text + "end");
        for (int person = 0; person < 5; person++) {
            bench.number(person, 0, 100);
            bench.number(person, 1, 100);
        }
        return bench;
    }

    private static String linesDue(int last) {
        StringBuilder due = new StringBuilder();
        for (int i = 0; i < 100; i++) {
            due.append("not wwwwwwwww").append(i / 25).append('(');
            due.append(NAMES[i / 5 % 5]).append(',').append(NAMES[i % 5]);
            due.append(") by rrrrrrrrr").append(i / 25).append('\n');
        }
        for (int i = 0; i < 10; i++) {
            due.append((i < 5 ? "s" : "z").repeat(10)).append('(').append(NAMES[i % 5]).append(") ");
            due.append(i < 9 ? 100 : last).append('\n');
        }
        return due.toString();
    }

    private static void mostBytesKept() {
        Due.by("13: how many bytes; the first 4,000 are kept. 14: Byte i of OUT; NONE if .. it is not kept");
        StatuteBench bench = manyLines();
        for (int last : new int[] {10, 999, 1234, -99999, 7}) {
            bench.number(4, 1, last);
            Due.is("judge", bench.judge(0, 0), 100);
            String due = linesDue(last);
            Due.is("the length is near 4,000", Math.abs(due.length() - 4000) <= 3, true);
            Due.is("text()", bench.text(), due.length());
            for (int i : new int[] {0, 1, 37, 38, 1999, 2000, 2047, 2048, 3800, 3990, 3995, 3996, 3997, 3998, 3999}) {
                Due.is("byte " + i + " of " + due.length(), bench.out(i), i < due.length() ? due.charAt(i) : NONE);
            }
            for (int i : new int[] {4000, 4001, 4002, 4003, 8000, MAX, -1, -4000, MIN}) {
                Due.is("byte " + i + " of " + due.length(), bench.out(i), NONE);
            }
        }
    }

    private static void outBytes() {
        Due.by("14: Byte i of OUT; NONE if there is none such");
        StatuteBench bench = behind(EdgesOfCallsTest::judged);
        String due = "v(b) fact\nu(c,a) by p\ns(b) 7/2\n";
        Due.is("text()", bench.text(), due.length());
        for (int i = 0; i < due.length(); i++) {
            Due.is("byte " + i, bench.out(i), due.charAt(i));
        }
        for (int i : new int[] {due.length(), due.length() + 1, 3999, 4000, MAX, -1, MIN}) {
            Due.is("byte " + i, bench.out(i), NONE);
        }
    }

    private static void rules() {
        Due.by("15: Of RULE r: its LAW (what 0) .. CONDS (2), VARS (3) .. its WORD, or SUM (4) .. NONE for others");
        StatuteBench bench = Due.bench("person a; word w 0; word v 2; sum s; sum z; law k rank 0 from 0; end "
            + "law l rank 0 from 0; rule r: => w; bar q: v(X, Y), v(Y, Z) => not v(Z, X); take t: w => z(a) + 1; end "
            + "law m rank 0 from 0; end law n rank 0 from 0; rule p: w, w, w, w, w, same X X => not w; "
            + "take o: => s(X) least 1; end");
        int[][] due = {
            {1, 0, 0, 0, 0, 1}, {1, 1, 2, 3, 1, 0}, {1, 2, 1, 0, 1, 1}, {3, 0, 6, 1, 0, 0}, {3, 2, 0, 1, 0, 1},
        };
        for (int r = 0; r < due.length; r++) {
            for (int what = 0; what <= 5; what++) {
                Due.is("rule(" + r + ", " + what + ")", bench.rule(r, what), due[r][what]);
            }
            for (int what : new int[] {-1, 6, MIN, MAX}) {
                Due.is("rule(" + r + ", " + what + ")", bench.rule(r, what), NONE);
            }
        }
        for (int what = 0; what <= 5; what++) {
            Due.is("rule(5, " + what + ")", bench.rule(5, what), NONE);
            for (int strange : STRANGE) {
                Due.is("rule(" + strange + ", " + what + ")", bench.rule(strange, what), NONE);
            }
        }
    }

    private static void laws() {
        Due.by("16: Of LAW l: RANK, the DAY on which it was MADE, from, until (NONE for ever), RULES. NONE for others");
        StatuteBench bench = Due.bench("word w 0; law k rank 0 from 0; end "
            + "law l rank 9 from 999998 until 999999; rule r: => w; end");
        bench.clock(LAST_DAY);
        StringBuilder rest = new StringBuilder("law m rank 5 from 999999; ");
        for (int i = 0; i < 29; i++) {
            rest.append("bar b").append(i).append(": => w; ");
        }
        Due.is("read", Due.read(bench, rest + "end law n rank 1 from 0 until 1; end"), 0);
        int[][] due = {{0, 0, 0, NONE, 0}, {9, 0, 999998, 999999, 1}, {5, LAST_DAY, LAST_DAY, NONE, 29},
            {1, LAST_DAY, 0, 1, 0}};
        for (int l = 0; l < due.length; l++) {
            for (int what = 0; what <= 4; what++) {
                Due.is("law(" + l + ", " + what + ")", bench.law(l, what), due[l][what]);
            }
            for (int what : new int[] {-1, 5, MIN, MAX}) {
                Due.is("law(" + l + ", " + what + ")", bench.law(l, what), NONE);
            }
        }
        for (int what = 0; what <= 4; what++) {
            Due.is("law(4, " + what + ")", bench.law(4, what), NONE);
            for (int strange : STRANGE) {
                Due.is("law(" + strange + ", " + what + ")", bench.law(strange, what), NONE);
            }
        }
    }

    private static void above() {
        Due.by("17: Whether RULE r is ABOVE s (1, 0); NONE if one is none such, or a take");
        // RULES 0 rule, 1 bar, 2 take, 3 and 4 rules of a higher LAW.
        StatuteBench bench = behind(EdgesOfCallsTest::told);
        int[][] due = {{0, 0, NONE, 0, 0}, {0, 0, NONE, 0, 0}, {NONE, NONE, NONE, NONE, NONE},
            {1, 1, NONE, 0, 0}, {1, 1, NONE, 0, 0}};
        for (int r = 0; r < 5; r++) {
            for (int s = 0; s < 5; s++) {
                Due.is("above(" + r + ", " + s + ")", bench.above(r, s), due[r][s]);
            }
            Due.is("above(" + r + ", 5)", bench.above(r, 5), NONE);
            Due.is("above(5, " + r + ")", bench.above(5, r), NONE);
            for (int strange : STRANGE) {
                Due.is("above(" + r + ", " + strange + ")", bench.above(r, strange), NONE);
                Due.is("above(" + strange + ", " + r + ")", bench.above(strange, r), NONE);
            }
        }
        Due.is("above(5, 5)", bench.above(5, 5), NONE);
        Due.is("above(-1, -1)", bench.above(-1, -1), NONE);
    }

    private static void counts() {
        Due.by("18: 0 PERSONS, 1 WORDS, 2 SUMS, 3 LAWS, 4 RULES, 5 overs, 6 testimonies .. NONE for others");
        StatuteBench bench = new StatuteBench();
        StringBuilder text = new StringBuilder();
        for (int i = 0; i < 12; i++) {
            text.append(i < 5 ? "person p" + i + "; " : "").append(i < 4 ? "sum s" + i + "; " : "");
            text.append("word w" + i + " 0; ");
        }
        for (int i = 0; i < 10; i++) {
            text.append("law l" + i + " rank 0 from 0; rule r" + i + ": => w0; bar b" + i + ": => w1; ");
            text.append("take t" + i + ": => s0(p0) + 1; end ");
            text.append("over r" + i + " b" + i + "; over b" + i + " r" + i + "; ");
        }
        Due.is("read of the most of all", Due.read(bench, text.toString()), 0);
        for (int i = 0; i < 100; i++) {
            bench.testify(i % 12, true, 0, 0, 0, 1, 1);
        }
        bench.clock(LAST_DAY);
        blankRows(bench, 200);
        int[] due = {5, 12, 4, 10, 30, 20, 100, LAST_DAY, 4000, 0, 0, 0, 0};
        for (int what = 0; what < due.length; what++) {
            Due.is("count(" + what + ")", bench.count(what), due[what]);
        }
        for (int what : new int[] {-1, 13, 14, MIN, MAX}) {
            Due.is("count(" + what + ")", bench.count(what), NONE);
        }
    }

    private static void countsAsJudged() {
        Due.by("18: as it was judged (0 without): 9 PROVED, 10 REFUTED, 11 OPEN LITERALS, 12 APPLICABLE INSTANCES");
        StatuteBench bench = behind(EdgesOfCallsTest::told);
        // On day 3 by r, q, t and p; on day 8 by p alone; on day 9 by none.
        int[][] due = {{0, 0, 0, 0}, {2, 23, 1, 4}, {2, 23, 1, 1}, {0, 25, 1, 0}};
        int[][] days = {{-1, 3}, {0, 3}, {0, 8}, {0, 9}};
        for (int i = 0; i < due.length; i++) {
            bench.judge(days[i][0], days[i][1]);
            for (int what = 9; what <= 12; what++) {
                Due.is("count(" + what + ") behind judge(" + days[i][0] + ", " + days[i][1] + ")", bench.count(what),
                    due[i][what - 9]);
            }
        }
    }

    private static void lastCall() {
        Due.by("An object is used for at most 512 calls after it has been made");
        StatuteBench bench = new StatuteBench();
        // 16 rounds of 32 calls each; feed and back of a text of 120 bytes are seven.
        for (int round = 0; round < 16; round++) {
            StringBuilder text = new StringBuilder(round == 0 ? "word w 0; person p; sum s; " : "");
            if (round < 10) {
                text.append("law l" + round + " rank 0 from 0; take t" + round + ": => s(p) + p.0; end ");
            }
            String row = (text + " ".repeat(120)).substring(0, 120);
            Due.feed(bench, row);
            Due.is("read() of round " + round, bench.read(), 0);
            Due.is("place() of round " + round, bench.place(), NONE);
            for (int i = 0; i < 6; i++) {
                Due.is("testimony", bench.testify(0, true, 0, 0, 0, 1000000, 1), round * 6 + i);
                Due.is("clock", bench.clock(round), true);
            }
            Due.is("number", bench.number(0, 0, round), true);
            for (int i = 0; i < 4; i++) {
                Due.is("judge of round " + round, bench.judge(round, LAST_DAY), 1);
            }
            Due.is("testimonies of round " + round, bench.count(6), 6 * (round + 1));
            Due.is("status of round " + round, bench.status(0, true, 0, 0), 1);
            int sum = round * Math.min(round + 1, 10);
            Due.is("sum of round " + round, bench.sum(0, 0, 0), sum);
            int length = ("w fact\ns(p) " + sum + "\n").length();
            Due.is("text of round " + round, bench.text(), length);
            Due.is("byte behind it", bench.out(length), NONE);
            Due.is("its last byte, by call " + 32 * (round + 1), bench.out(length - 1), 10);
        }
    }
}
