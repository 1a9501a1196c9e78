/** Compares answers with those that are due, and puts texts on a bench's tape. */
final class Due {
    private static int wrong = 0;
    private static int asked = 0;
    private static String sentence = "";

    private Due() {
    }

    /** The sentence of the document that the answers behind this are due by. */
    static void by(String words) {
        sentence = "[" + words + "] ";
    }

    static void is(String what, long got, long want) {
        asked++;
        if (got != want) {
            wrong++;
            System.out.println(sentence + what + " answered " + got + ", due is " + want);
        }
    }

    static void is(String what, boolean got, boolean want) {
        is(what, got ? 1 : 0, want ? 1 : 0);
    }

    static void is(String what, String got, String want) {
        asked++;
        if (!got.equals(want)) {
            wrong++;
            System.out.println(sentence + what + " answered [" + got + "], due is [" + want + "]");
        }
    }

    /** Ends the test, with exit code 1 if an answer was wrong. */
    static void end() {
        if (wrong > 0) {
            System.out.println(wrong + " of " + asked + " answers are wrong");
            System.exit(1);
        }
        System.out.println(asked + " answers are as due");
    }

    /** Puts a text on the tape: blanks fill the last twenty bytes, and go again. */
    static void feed(StatuteBench bench, String text) {
        int[] words = new int[5];
        for (int start = 0; start < text.length(); start += 20) {
            for (int i = 0; i < 20; i++) {
                int at = start + i;
                int value = at < text.length() ? text.charAt(at) : ' ';
                words[i / 4] = words[i / 4] << 8 | value & 255;
            }
            bench.feed(words[0], words[1], words[2], words[3], words[4]);
        }
        bench.back((20 - text.length() % 20) % 20);
    }

    static int read(StatuteBench bench, String text) {
        feed(bench, text);
        return bench.read();
    }

    /** A bench that has read the text, which is due to have no fault. */
    static StatuteBench bench(String text) {
        StatuteBench bench = new StatuteBench();
        is("read of " + shortened(text), read(bench, text), 0);
        return bench;
    }

    /** The fault of a text, with what a bench has read ahead of it. */
    static void fault(StatuteBench bench, String text, int fault, int place) {
        is("read of " + shortened(text), read(bench, text), fault);
        is("place of " + shortened(text), bench.place(), place);
    }

    private static String shortened(String text) {
        int length = text.length();
        return length <= 300 ? text : text.substring(0, 100) + " .. " + text.substring(length - 100);
    }

    static void fault(String text, int fault, int place) {
        fault(new StatuteBench(), text, fault, place);
    }

    /** The fault stands where the sign ^ does, which is no part of the text. */
    static void faultAt(String ahead, String marked, int fault) {
        StatuteBench bench = bench(ahead);
        fault(bench, marked.replace("^", ""), fault, marked.indexOf('^'));
    }

    static String judgment(StatuteBench bench) {
        int length = bench.text();
        StringBuilder text = new StringBuilder();
        for (int i = 0; i < length && bench.out(i) != StatuteBench.NONE; i++) {
            text.append((char) bench.out(i));
        }
        return text.toString();
    }

    static String repeat(String part, int times) {
        return part.repeat(times);
    }
}
