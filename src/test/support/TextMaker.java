import java.util.ArrayList;
import java.util.List;
import java.util.Random;

/** Makes texts at random, mostly right ones, of the names told so far. */
final class TextMaker {
    private final Random random;
    private final int slips;
    private final List<String> persons = new ArrayList<>();
    private final List<String> words = new ArrayList<>();
    private final List<Integer> places = new ArrayList<>();
    private final List<String> sums = new ArrayList<>();
    private final List<String> rules = new ArrayList<>();
    private final List<String> takes = new ArrayList<>();
    private final int[] kept = new int[6];
    private final List<String> text = new ArrayList<>();
    private int laws = 0;
    private int named = 0;

    /** A slip, one of so many chances, is a name or a number that is wrong in its place. */
    TextMaker(Random random, int slips) {
        this.random = random;
        this.slips = slips;
    }

    /** What was told since the last call of this, is there; or, if the text had a fault, it is not. */
    void settle(boolean there) {
        List<List<?>> all = List.of(persons, words, places, sums, rules, takes);
        for (int i = 0; i < kept.length; i++) {
            List<?> names = all.get(i);
            if (there) {
                kept[i] = names.size();
            } else {
                names.subList(kept[i], names.size()).clear();
            }
        }
    }

    private boolean slip() {
        return slips > 0 && random.nextInt(slips) == 0;
    }

    private boolean chance(int percent) {
        return random.nextInt(100) < percent;
    }

    private void put(String... tokens) {
        text.addAll(List.of(tokens));
    }

    private String known(List<String> names) {
        if (names.isEmpty() || slip()) {
            return "zz" + random.nextInt(3);
        }
        return names.get(random.nextInt(names.size()));
    }

    private String fresh(String stem, List<String> names) {
        String name = !names.isEmpty() && slip() ? known(names) : stem + named++;
        names.add(name);
        return name;
    }

    void persons(int many) {
        for (int i = 0; i < many; i++) {
            put("person", fresh("p", persons), ";");
        }
    }

    void words(int many) {
        for (int i = 0; i < many; i++) {
            int count = slip() ? 3 : random.nextInt(3);
            put("word", fresh("w", words), "" + count, ";");
            places.add(count);
        }
    }

    void sums(int many) {
        for (int i = 0; i < many; i++) {
            put("sum", fresh("s", sums), ";");
        }
    }

    void overs(int many) {
        for (int i = 0; i < many && rules.size() > 1; i++) {
            String first = known(slip() ? takes : rules);
            String second = known(slip() ? takes : rules);
            if (!first.equals(second) || slip()) {
                put("over", first, second, ";");
            }
        }
    }

    void law(int many, int conditions) {
        put("law", "l" + laws++, "rank", "" + (slip() ? 10 : random.nextInt(3)));
        int from = random.nextInt(4);
        put("from", "" + from);
        if (chance(30)) {
            put("until", "" + (slip() ? from : from + 1 + random.nextInt(8)));
        }
        put(";");
        for (int i = 0; i < many; i++) {
            rule(conditions);
        }
        put("end");
    }

    private void rule(int conditions) {
        boolean take = !sums.isEmpty() && chance(25);
        String kind = take ? "take" : chance(20) ? "bar" : "rule";
        put(kind, fresh(take ? "t" : "r", take ? takes : rules), ":");
        int many = random.nextInt(conditions + 1);
        int variables = 1 + random.nextInt(slip() ? 4 : 3);
        for (int i = 0; i < many; i++) {
            if (i > 0) {
                put(",");
            }
            condition(variables);
        }
        put("=>");
        if (take) {
            put(known(sums), "(", term(variables), ")");
            put(chance(60) ? "+" : List.of("*", "most", "least").get(random.nextInt(3)));
            formula(variables, 2);
        } else {
            literal(variables);
        }
        put(";");
    }

    private String term(int variables) {
        return chance(75) || persons.isEmpty() ? "" + "XYZW".charAt(random.nextInt(variables)) : known(persons);
    }

    private void literal(int variables) {
        if (chance(35)) {
            put("not");
        }
        int word = random.nextInt(Math.max(1, words.size()));
        put(words.isEmpty() || slip() ? "zz" : words.get(word));
        int count = words.isEmpty() || slip() ? random.nextInt(3) : places.get(word);
        if (count == 1) {
            put("(", term(variables), ")");
        } else if (count > 1) {
            put("(", term(variables), ",", term(variables), ")");
        }
    }

    private void condition(int variables) {
        int sort = random.nextInt(10);
        if (sort == 0) {
            put("same", term(variables), term(variables));
        } else if (sort == 1) {
            put("other", term(variables), term(variables));
        } else if (sort <= 3) {
            put("if");
            formula(variables, 2);
            put(List.of("==", "!=", "<", "<=").get(random.nextInt(4)));
            formula(variables, 2);
        } else {
            literal(variables);
        }
    }

    private void formula(int variables, int depth) {
        if (chance(20)) {
            put("-");
        }
        unit(variables, depth);
        while (chance(35)) {
            put(List.of("+", "-", "*", "*").get(random.nextInt(4)));
            unit(variables, depth);
        }
    }

    private void unit(int variables, int depth) {
        int sort = random.nextInt(depth > 0 ? 7 : 5);
        if (sort > 4) {
            put("(");
            formula(variables, depth - 1);
            put(")");
        } else if (sort > 2 && !persons.isEmpty()) {
            put(term(variables), ".", "" + random.nextInt(slip() ? 5 : 4));
        } else {
            put("" + random.nextInt(chance(15) ? 1000000 : 7));
            if (chance(30)) {
                put("/", "" + (slip() ? 0 : 1 + random.nextInt(chance(10) ? 999999 : 6)));
            }
        }
    }

    /** The tokens told since the last text, which are written then. */
    List<String> tokens() {
        List<String> tokens = new ArrayList<>(text);
        text.clear();
        return tokens;
    }

    /** Puts blanks where two tokens would be read as one, and at times elsewhere. */
    static String write(List<String> tokens, Random random) {
        StringBuilder written = new StringBuilder();
        for (String token : tokens) {
            int length = written.length();
            boolean needed = length > 0 && !token.isEmpty() && Character.isLetterOrDigit(written.charAt(length - 1))
                && Character.isLetterOrDigit(token.charAt(0));
            if (needed || random.nextInt(8) == 0) {
                written.append(" \n\t\r".charAt(random.nextInt(6) == 0 ? random.nextInt(4) : 0));
            }
            written.append(token);
        }
        return written.toString();
    }
}
