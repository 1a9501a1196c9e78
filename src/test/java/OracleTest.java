import java.util.List;
import java.util.Random;

/** Texts, testimonies and judgments at random, always the same ones, against the oracle. */
public final class OracleTest {
    private static final String[] STRAY = {"person", "word", "sum", "law", "rank", "from", "until", "end", "over",
        "rule", "bar", "take", "most", "least", "same", "other", "if", "not", ":", ";", ",", ".", "(", ")", "+", "-",
        "*", "/", "=>", "==", "!=", "<", "<=", "a", "p0", "X", "Y", "7", "123456", "1234567", "abcdefghij",
        "abcdefghijk", "=", "!", ">", "#", "\u00e4", "\u0000", "aX", "Xa", "1a", "\u000b"};

    public static void main(String[] args) {
        int scale = args.length > 0 ? Integer.parseInt(args[0]) : 1;
        for (int seed = 0; seed < 400 * scale; seed++) {
            judgedRun(seed);
        }
        for (int seed = 0; seed < 2500 * scale; seed++) {
            slippedRun(seed);
        }
        for (int seed = 0; seed < 2500 * scale; seed++) {
            strayRun(seed);
        }
        for (int seed = 0; seed < 40 * scale; seed++) {
            fullRun(seed);
        }
        for (int seed = 0; seed < 60 * scale; seed++) {
            strangeRun(seed);
        }
        Due.end();
    }

    /** Right texts alone: what follows is judged on several days. */
    private static void judgedRun(int seed) {
        Random random = new Random(seed);
        Pair pair = new Pair("judged run " + seed);
        TextMaker maker = new TextMaker(random, 0);
        for (int part = 0; part < 3; part++) {
            maker.persons(part == 0 ? random.nextInt(4) : random.nextInt(4) / 3);
            maker.words(part == 0 ? 1 + random.nextInt(4) : random.nextInt(2));
            maker.sums(random.nextInt(2));
            maker.law(random.nextInt(7), random.nextInt(4));
            if (random.nextInt(2) == 0) {
                maker.law(random.nextInt(7), 1);
            }
            maker.overs(random.nextInt(6));
            maker.settle(pair.read(TextMaker.write(maker.tokens(), random)) == 0);
            hear(pair, random);
            pair.judge(random.nextInt(8), random.nextInt(8));
            pair.askJudgment();
            pair.askTexts();
            pair.askCode();
            if (random.nextInt(2) == 0) {
                pair.clock(pair.count(7) + random.nextInt(3));
            }
        }
        hear(pair, random);
        pair.judge(7, random.nextInt(8));
        pair.askJudgment();
        pair.askTexts();
    }

    private static void hear(Pair pair, Random random) {
        int many = random.nextInt(8);
        for (int i = 0; i < many; i++) {
            int[] who = {random.nextInt(4) - random.nextInt(2), random.nextInt(4)};
            int from = random.nextInt(4) - (random.nextInt(20) == 0 ? 1 : 0);
            pair.testify(random.nextInt(6), random.nextInt(3) > 0, who, from, from + random.nextInt(9),
                random.nextInt(11));
            int size = random.nextInt(4) == 0 ? 1000001 : 9;
            pair.number(random.nextInt(4), random.nextInt(5), random.nextInt(2 * size + 1) - size);
        }
    }

    /** Texts whose tokens stand right, but not all their names and numbers. */
    private static void slippedRun(int seed) {
        Random random = new Random(seed);
        Pair pair = new Pair("slipped run " + seed);
        TextMaker maker = new TextMaker(random, 1 + random.nextInt(160));
        for (int part = 0; part < 3; part++) {
            maker.settle(pair.read(TextMaker.write(someTokens(maker, random), random)) == 0);
        }
        pair.judge(9, 3);
        pair.askTexts();
        pair.askCode();
    }

    private static List<String> someTokens(TextMaker maker, Random random) {
        maker.persons(random.nextInt(3));
        maker.words(random.nextInt(4));
        maker.overs(random.nextInt(6) == 0 ? 1 : 0);
        maker.sums(random.nextInt(3));
        maker.law(random.nextInt(4), random.nextInt(random.nextInt(10) == 0 ? 9 : 4));
        maker.overs(random.nextInt(3));
        maker.law(random.nextInt(2), 2);
        return maker.tokens();
    }

    /** Texts with tokens that went, came or changed; and with bytes that did. */
    private static void strayRun(int seed) {
        Random random = new Random(seed);
        Pair pair = new Pair("stray run " + seed);
        for (int part = 0; part < 3; part++) {
            List<String> tokens = someTokens(new TextMaker(random, 0), random);
            if (random.nextInt(3) > 0) {
                stray(tokens, random);
            }
            StringBuilder text = new StringBuilder(TextMaker.write(tokens, random));
            if (random.nextInt(3) == 0 && text.length() > 0) {
                int at = random.nextInt(text.length());
                text.setCharAt(at, (char) (random.nextInt(2) == 0 ? random.nextInt(256) : 32 + random.nextInt(95)));
            }
            if (random.nextInt(6) == 0) {
                text.setLength(random.nextInt(text.length() + 1));
            }
            pair.read(text.toString());
        }
        pair.askCode();
    }

    private static void stray(List<String> tokens, Random random) {
        int at = random.nextInt(tokens.size() + 1);
        String stray = STRAY[random.nextInt(STRAY.length)];
        int sort = random.nextInt(3);
        if (sort == 0 || at == tokens.size()) {
            tokens.add(at, stray);
        } else if (sort == 1) {
            tokens.set(at, stray);
        } else {
            tokens.remove(at);
        }
    }

    /** Benches near or beyond the most of everything. */
    private static void fullRun(int seed) {
        Random random = new Random(seed);
        Pair pair = new Pair("full run " + seed);
        TextMaker maker = new TextMaker(random, 0);
        maker.persons(3 + random.nextInt(3));
        maker.words(3 + random.nextInt(10));
        maker.sums(3 + random.nextInt(3) / 2);
        maker.settle(pair.read(TextMaker.write(maker.tokens(), random)) == 0);
        for (int part = 0; part < 8; part++) {
            maker.law(random.nextInt(8), 3);
            maker.overs(random.nextInt(6));
            maker.settle(pair.read(TextMaker.write(maker.tokens(), random)) == 0);
            hear(pair, random);
            pair.clock(pair.count(7) + random.nextInt(2));
        }
        pair.judge(8, random.nextInt(6));
        pair.askJudgment();
        pair.askTexts();
        pair.askCode();
    }

    /** Calls in any order, with arguments that are often none. */
    private static void strangeRun(int seed) {
        Random random = new Random(seed);
        Pair pair = new Pair("strange run " + seed);
        TextMaker maker = new TextMaker(random, 0);
        for (int i = 0; i < 512; i++) {
            if (random.nextInt(60) == 0 && pair.count(8) == 0) {
                maker.settle(pair.read(TextMaker.write(someTokens(maker, random), random)) == 0);
            } else {
                pair.strangeCall(random);
            }
        }
    }
}
