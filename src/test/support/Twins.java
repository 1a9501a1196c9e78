import java.util.function.Consumer;

/** Two benches behind the same calls, of which one was also asked what the document says changes nothing. */
final class Twins {
    private static final int MOST_ASKED = 4;

    private Twins() {
    }

    /** All that both answer is alike, then and behind a reading of their tapes and a judgment. */
    static void alike(String what, Consumer<StatuteBench> calls, Consumer<StatuteBench> refused) {
        alike(what, calls, refused, bench -> { });
    }

    /** The same, with calls of both behind the refused one. */
    static void alike(String what, Consumer<StatuteBench> calls, Consumer<StatuteBench> refused,
            Consumer<StatuteBench> then) {
        StatuteBench plain = new StatuteBench();
        StatuteBench tried = new StatuteBench();
        calls.accept(plain);
        calls.accept(tried);
        refused.accept(tried);
        then.accept(plain);
        then.accept(tried);
        Due.is(what + " changes nothing", answers(tried), answers(plain));
    }

    // The 512 calls of an object have room for these, some 250, and for as many ahead of them.
    private static String answers(StatuteBench bench) {
        StringBuilder all = new StringBuilder();
        askCode(bench, all);
        askJudgment(bench, all);
        all.append(" read ").append(bench.read()).append(' ').append(bench.place());
        all.append(" judge ").append(bench.judge(999999, 3)).append(" text ").append(bench.text());
        askJudgment(bench, all);
        return all.toString();
    }

    private static void askCode(StatuteBench bench, StringBuilder all) {
        all.append(" place ").append(bench.place()).append(" counts");
        for (int what = 0; what <= 8; what++) {
            all.append(' ').append(bench.count(what));
        }
        int rules = bench.count(4);
        for (int r = Math.max(0, rules - MOST_ASKED); r < rules; r++) {
            all.append(" rule ").append(r);
            for (int what = 0; what <= 5; what++) {
                all.append(' ').append(bench.rule(r, what));
            }
            all.append(" above ").append(bench.above(0, r)).append(' ').append(bench.above(r, 0));
        }
        int laws = bench.count(3);
        for (int l = Math.max(0, laws - MOST_ASKED); l < laws; l++) {
            all.append(" law ").append(l);
            for (int what = 0; what <= 4; what++) {
                all.append(' ').append(bench.law(l, what));
            }
        }
    }

    private static void askJudgment(StatuteBench bench, StringBuilder all) {
        all.append(" judged");
        for (int what = 9; what <= 12; what++) {
            all.append(' ').append(bench.count(what));
        }
        for (int word = 0; word < Math.min(bench.count(1), MOST_ASKED); word++) {
            all.append(" word ").append(word);
            for (int person = 0; person < 2; person++) {
                all.append(' ').append(bench.status(word, true, person, 0));
                all.append(' ').append(bench.status(word, false, person, 1));
                all.append(' ').append(bench.why(word, true, person, 0, 0));
                all.append(' ').append(bench.why(word, true, person, 0, 1));
            }
        }
        for (int s = 0; s < Math.min(bench.count(2), 2); s++) {
            all.append(" sum ").append(s);
            for (int what = 0; what <= 3; what++) {
                all.append(' ').append(bench.sum(s, 0, what)).append(' ').append(bench.sum(s, 1, what));
            }
        }
        all.append(" out");
        for (int i = 0; i < 30; i++) {
            all.append(' ').append(bench.out(i));
        }
    }
}
