/** Promises 1, 2 and 3: a new object, feed and back. */
public final class TapeTest {
    private static final int BLANKS = 0x20202020;

    public static void main(String[] args) {
        newObject();
        bytesAndTheirOrder();
        fullTape();
        backwards();
        Due.end();
    }

    private static void newObject() {
        StatuteBench bench = new StatuteBench();
        for (int what = 0; what <= 12; what++) {
            Due.is("count(" + what + ") of a new object", bench.count(what), 0);
        }
        Due.is("place() of a new object", bench.place(), -1);
        Due.is("out(0) of a new object", bench.out(0), -1);
        Due.is("text() of a new object", bench.text(), -1);
        Due.is("status of a new object", bench.status(0, true, 0, 0), -1);
        Due.is("why of a new object", bench.why(0, true, 0, 0, 0), -1);
        Due.is("sum of a new object", bench.sum(0, 0, 0), -1);
        Due.is("rule of a new object", bench.rule(0, 0), -1);
        Due.is("law of a new object", bench.law(0, 0), -1);
        Due.is("above of a new object", bench.above(0, 0), -1);
        Due.is("testify of a new object", bench.testify(0, true, 0, 0, 0, 1, 1), -1);
        Due.is("number of a new object", bench.number(0, 0, 0), false);
        Due.is("read() of a new object", bench.read(), 0);
        Due.is("judge of a new object", bench.judge(0, 0), 0);
        Due.is("text() of nothing", bench.text(), 0);
        Due.is("clock(0) of a new object", bench.clock(0), true);
        StatuteBench other = Due.bench("person a;");
        Due.is("persons of another object", bench.count(0), 0);
        Due.is("persons of the fed object", other.count(0), 1);
    }

    private static void bytesAndTheirOrder() {
        StatuteBench bench = new StatuteBench();
        // "person ab;" and "sum c;" with blanks: pers|on a|b;su|m c;|blanks
        Due.is("feed", bench.feed(0x70657273, 0x6f6e2061, 0x623b7375, 0x6d20633b, BLANKS), 20);
        Due.is("count(8)", bench.count(8), 20);
        Due.is("feed again", bench.feed(BLANKS, BLANKS, BLANKS, BLANKS, BLANKS), 40);
        Due.is("read()", bench.read(), 0);
        Due.is("persons", bench.count(0), 1);
        Due.is("sums", bench.count(2), 1);
        Due.is("count(8) behind read()", bench.count(8), 0);
        Due.is("feed behind read()", bench.feed(BLANKS, BLANKS, BLANKS, BLANKS, 0x202020e4), 20);
        Due.is("read() of a byte above 127", bench.read(), 1);
        Due.is("place() of a byte above 127", bench.place(), 19);
        bench.feed(BLANKS, 0xe4202020, BLANKS, BLANKS, BLANKS);
        bench.read();
        Due.is("place() of the highest byte", bench.place(), 4);
        bench.feed(-1, -1, -1, -1, -1);
        bench.read();
        Due.is("place() of bytes 255", bench.place(), 0);
    }

    private static void fullTape() {
        StatuteBench bench = new StatuteBench();
        for (int i = 1; i <= 200; i++) {
            Due.is("feed " + i, bench.feed(BLANKS, BLANKS, BLANKS, BLANKS, BLANKS), 20 * i);
        }
        Due.is("feed of a full tape", bench.feed(0, 0, 0, 0, 0), -1);
        Due.is("count(8) of a full tape", bench.count(8), 4000);
        Due.is("back(19)", bench.back(19), 3981);
        Due.is("feed with 3981 bytes", bench.feed(0, 0, 0, 0, 0), -1);
        Due.is("count(8)", bench.count(8), 3981);
        Due.is("back(1)", bench.back(1), 3980);
        Due.is("feed with 3980 bytes", bench.feed(BLANKS, BLANKS, BLANKS, BLANKS, 0x2020203b), 4000);
        Due.is("read() of a full tape", bench.read(), 1);
        Due.is("place() of the last byte", bench.place(), 3999);
        Due.is("feed behind it", bench.feed(BLANKS, BLANKS, BLANKS, BLANKS, BLANKS), 20);
    }

    private static void backwards() {
        StatuteBench bench = new StatuteBench();
        Due.is("back(0) of an empty tape", bench.back(0), 0);
        Due.is("back(1) of an empty tape", bench.back(1), -1);
        Due.feed(bench, "person a; person b; x");
        Due.is("back(22)", bench.back(22), -1);
        Due.is("back(-1)", bench.back(-1), -1);
        Due.is("back of the least int", bench.back(Integer.MIN_VALUE), -1);
        Due.is("back of the greatest int", bench.back(Integer.MAX_VALUE), -1);
        Due.is("count(8) is as before", bench.count(8), 21);
        Due.is("back(0)", bench.back(0), 21);
        Due.is("back(12)", bench.back(12), 9);
        Due.is("read() of what is left", bench.read(), 0);
        Due.is("persons", bench.count(0), 1);
        Due.feed(bench, "person b; person c;");
        Due.is("back of all", bench.back(19), 0);
        Due.is("read() of nothing", bench.read(), 0);
        Due.is("persons as before", bench.count(0), 1);
        Due.feed(bench, "zzzzzzzzzzzzzzzzzzzzzz");
        bench.back(22);
        Due.is("what went is not read", Due.read(bench, "sum q;"), 0);
    }
}
