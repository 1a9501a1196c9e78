import java.math.BigInteger;
import java.util.ArrayList;
import java.util.Arrays;
import java.util.HashMap;
import java.util.HashSet;
import java.util.LinkedHashMap;
import java.util.LinkedHashSet;
import java.util.List;
import java.util.Map;
import java.util.Set;
import java.util.TreeSet;

/**
 * The document said once more, in the plainest and slowest way, for comparison: the grammar as a table that all its
 * ways are tried in, faults of room as a walk over tokens, judgments as sets that grow until they stand.
 */
final class Oracle {
    private static final int NONE = -1;
    private static final BigInteger MOST_PART = BigInteger.valueOf(1000000000L);
    private static final Set<String> WORDS = Set.of("person", "word", "sum", "law", "rank", "from", "until", "end",
        "over", "rule", "bar", "take", "most", "least", "same", "other", "if", "not");

    // Each way of a sort is a row of sorts, words in quotes, NAME, VAR or INT.
    private static final Map<String, String[]> GRAMMAR = new HashMap<>();

    static {
        way("TEXT", "", "TELL TEXT");
        way("TELL", "'person' NAME ';'", "'word' NAME INT ';'", "'sum' NAME ';'",
            "'law' NAME 'rank' INT 'from' INT UNTIL ';' RULES 'end'", "'over' NAME NAME ';'");
        way("UNTIL", "", "'until' INT");
        way("RULES", "", "RULE RULES");
        way("RULE", "'rule' NAME ':' CONDS '=>' LIT ';'", "'bar' NAME ':' CONDS '=>' LIT ';'",
            "'take' NAME ':' CONDS '=>' NAME '(' TERM ')' HOW E ';'");
        way("HOW", "'+'", "'*'", "'most'", "'least'");
        way("CONDS", "", "COND MORECONDS");
        way("MORECONDS", "", "',' COND MORECONDS");
        way("COND", "LIT", "'same' TERM TERM", "'other' TERM TERM", "'if' E SIGN E");
        way("SIGN", "'=='", "'!='", "'<'", "'<='");
        way("LIT", "NAME TERMS", "'not' NAME TERMS");
        way("TERMS", "", "'(' TERM ')'", "'(' TERM ',' TERM ')'");
        way("TERM", "VAR", "NAME");
        way("E", "PART PARTS", "'-' PART PARTS");
        way("PARTS", "", "'+' PART PARTS", "'-' PART PARTS");
        way("PART", "UNIT UNITS");
        way("UNITS", "", "'*' UNIT UNITS");
        way("UNIT", "INT", "INT '/' INT", "TERM '.' INT", "'(' E ')'");
    }

    private static void way(String sort, String... ways) {
        GRAMMAR.put(sort, ways);
    }

    private record Token(String kind, String text, int place) {
    }

    private record Ratio(BigInteger upper, BigInteger lower) {
    }

    private record Instance(int rule, int[] who, String head) {
    }

    private record Testimony(String literal, int from, int until, int weight, int told) {
    }

    private static final class Rule {
        String name;
        int law;
        String kind;
        String how;
        List<List<Token>> conditions = new ArrayList<>();
        List<Token> head = new ArrayList<>();
        List<Token> amount = new ArrayList<>();
        Set<String> variables = new LinkedHashSet<>();
    }

    private static final class State {
        List<String> persons = new ArrayList<>();
        Map<String, Integer> words = new LinkedHashMap<>();
        List<String> sums = new ArrayList<>();
        List<String> lawNames = new ArrayList<>();
        List<int[]> laws = new ArrayList<>();
        List<Rule> rules = new ArrayList<>();
        List<int[]> overs = new ArrayList<>();

        State copy() {
            State copy = new State();
            copy.persons.addAll(persons);
            copy.words.putAll(words);
            copy.sums.addAll(sums);
            copy.lawNames.addAll(lawNames);
            copy.laws.addAll(laws);
            copy.rules.addAll(rules);
            copy.overs.addAll(overs);
            return copy;
        }

        int ruleNumber(String name) {
            for (int i = 0; i < rules.size(); i++) {
                if (rules.get(i).name.equals(name)) {
                    return i;
                }
            }
            return NONE;
        }
    }

    private StringBuilder tape = new StringBuilder();
    private State state = new State();
    private final List<Testimony> testimonies = new ArrayList<>();
    private final int[][] numbers = new int[5][4];
    private int day = 0;
    private int place = NONE;
    private String out = "";

    // ---- what was judged
    private State judged = null;
    private final Set<String> facts = new HashSet<>();
    private final Set<String> proved = new HashSet<>();
    private final Set<String> refuted = new HashSet<>();
    private final List<String> literals = new ArrayList<>();
    private final List<Instance> instances = new ArrayList<>();
    private final Set<Instance> applicable = new HashSet<>();
    private final Set<Instance> discarded = new HashSet<>();
    private final Map<String, Ratio> amounts = new HashMap<>();
    private final Map<String, Integer> takes = new HashMap<>();

    // ================================================================ the tape

    int feed(int... five) {
        if (tape.length() > 3980) {
            return NONE;
        }
        for (int word : five) {
            for (int shift = 24; shift >= 0; shift -= 8) {
                tape.append((char) (word >>> shift & 255));
            }
        }
        return tape.length();
    }

    int back(int n) {
        if (n < 0 || tape.length() < n) {
            return NONE;
        }
        tape.delete(tape.length() - n, tape.length());
        return tape.length();
    }

    int place() {
        return place;
    }

    int read() {
        String text = tape.toString();
        tape = new StringBuilder();
        place = NONE;
        List<Token> tokens = tokens(text);
        int furthest = furthest(tokens);
        int room = roomFault(tokens, furthest);
        if (room != NONE) {
            place = tokens.get(room).place;
            return 2;
        }
        if (furthest < tokens.size()) {
            place = tokens.get(furthest).place;
            return 1;
        }
        tokens.remove(tokens.size() - 1);
        State next = state.copy();
        TreeSet<Integer> faults = new TreeSet<>();
        tellAll(tokens, next, faults);
        if (faults.isEmpty()) {
            state = next;
            return 0;
        }
        place = faults.first() / 10;
        return faults.first() % 10;
    }

    /** The last token is the text's end, or the first thing that is none. */
    private static List<Token> tokens(String text) {
        List<Token> tokens = new ArrayList<>();
        int at = 0;
        while (true) {
            while (at < text.length() && "\t\n\r ".indexOf(text.charAt(at)) >= 0) {
                at++;
            }
            if (at == text.length()) {
                tokens.add(new Token("END", "", at));
                return tokens;
            }
            String rest = text.substring(at);
            String longest = longestToken(rest);
            String kind = kindOf(longest);
            tokens.add(new Token(kind, longest, at));
            if (kind.equals("NOTHING")) {
                return tokens;
            }
            at += longest.length();
        }
    }

    private static String longestToken(String rest) {
        String[] shapes = {"[a-z][a-z0-9]*", "[0-9]+", "[A-Z]", "=>|==|!=|<=", "[:;,.()+*/<-]"};
        for (String shape : shapes) {
            java.util.regex.Matcher matcher = java.util.regex.Pattern.compile(shape).matcher(rest);
            if (matcher.lookingAt()) {
                return matcher.group();
            }
        }
        return "";
    }

    private static String kindOf(String token) {
        if (token.isEmpty()) {
            return "NOTHING";
        }
        char first = token.charAt(0);
        if (Character.isLowerCase(first)) {
            return token.length() > 10 ? "NOTHING" : WORDS.contains(token) ? "'" + token + "'" : "NAME";
        }
        if (Character.isDigit(first)) {
            return token.length() > 6 ? "NOTHING" : "INT";
        }
        return Character.isUpperCase(first) ? "VAR" : "'" + token + "'";
    }

    // ================================================================ syntax and room

    /**
     * The number of the first token with which no text goes on; the number of tokens if the text is one.
     * All ways are followed at once: each is what must still come, as a chain of sorts.
     */
    private static int furthest(List<Token> tokens) {
        Set<String> ways = Set.of("TEXT");
        for (int i = 0; i < tokens.size(); i++) {
            Set<String> next = new HashSet<>();
            Set<String> seen = new HashSet<>();
            boolean canEnd = false;
            List<String> open = new ArrayList<>(ways);
            while (!open.isEmpty()) {
                String way = open.remove(open.size() - 1);
                if (!seen.add(way)) {
                    continue;
                }
                if (way.isEmpty()) {
                    canEnd = true;
                    continue;
                }
                int cut = way.indexOf(' ');
                String first = cut < 0 ? way : way.substring(0, cut);
                String rest = cut < 0 ? "" : way.substring(cut + 1);
                if (GRAMMAR.containsKey(first)) {
                    for (String option : GRAMMAR.get(first)) {
                        open.add((option + " " + rest).trim());
                    }
                } else if (first.equals(tokens.get(i).kind)) {
                    next.add(rest);
                }
            }
            if (canEnd && tokens.get(i).kind.equals("END")) {
                return tokens.size();
            }
            if (next.isEmpty()) {
                return i;
            }
            ways = next;
        }
        return tokens.size();
    }

    /** The number of the first token ahead of the syntax fault for which there is no room. */
    private int roomFault(List<Token> tokens, int furthest) {
        int[] told = {state.persons.size(), state.words.size(), state.sums.size(), state.lawNames.size(),
            state.rules.size(), state.overs.size()};
        int[] most = {5, 12, 4, 10, 30, 20};
        int conditions = 0;
        boolean inConditions = false;
        int brackets = 0;
        Set<String> variables = new HashSet<>();
        for (int i = 0; i < furthest && i < tokens.size(); i++) {
            String kind = tokens.get(i).kind;
            if (kind.equals("END")) {
                return NONE;
            }
            String before = i == 0 ? "" : tokens.get(i - 1).kind;
            int sort = switch (before) {
                case "'person'" -> 0;
                case "'word'" -> 1;
                case "'sum'" -> 2;
                case "'law'" -> 3;
                case "'rule'", "'bar'", "'take'" -> 4;
                default -> kind.equals("'over'") ? 5 : NONE;
            };
            if (sort != NONE && ++told[sort] > most[sort] || i == 1200) {
                return i;
            }
            if (sort == 4) {
                conditions = 0;
                variables.clear();
            }
            if (kind.equals("'=>'")) {
                inConditions = false;
            } else if (before.equals("':'")) {
                inConditions = true;
                conditions = 1;
            } else if (before.equals("','") && inConditions && brackets == 0) {
                conditions++;
                if (conditions > 6) {
                    return i;
                }
            }
            brackets += kind.equals("'('") ? 1 : kind.equals("')'") ? -1 : 0;
            if (kind.equals("VAR")) {
                variables.add(tokens.get(i).text);
            }
            if (brackets > 8 || variables.size() > 3) {
                return i;
            }
        }
        return NONE;
    }

    // ================================================================ what is told

    private void tellAll(List<Token> tokens, State next, TreeSet<Integer> faults) {
        List<Token[]> overs = new ArrayList<>();
        int at = 0;
        while (at < tokens.size()) {
            int end = at;
            while (!tokens.get(end).text.equals(";") && !tokens.get(end).text.equals("end")) {
                end++;
            }
            List<Token> told = tokens.subList(at, end);
            at = end + 1;
            if (told.isEmpty()) {
                continue;
            }
            Token name = told.get(1);
            switch (told.get(0).text) {
                case "person" -> {
                    twice(next.persons, name, faults);
                    next.persons.add(name.text);
                }
                case "word" -> {
                    twice(next.words.keySet(), name, faults);
                    between(told.get(2), 0, 2, faults);
                    next.words.putIfAbsent(name.text, value(told.get(2)));
                }
                case "sum" -> {
                    twice(next.sums, name, faults);
                    next.sums.add(name.text);
                }
                case "law" -> {
                    twice(next.lawNames, name, faults);
                    next.lawNames.add(name.text);
                    int from = value(told.get(5));
                    int until = told.size() > 6 ? value(told.get(7)) : NONE;
                    between(told.get(3), 0, 9, faults);
                    if (told.size() > 6) {
                        between(told.get(7), from + 1, 999999, faults);
                    }
                    next.laws.add(new int[] {value(told.get(3)), day, from, until, 0});
                }
                case "over" -> overs.add(new Token[] {name, told.get(2)});
                default -> tellRule(told, next, faults);
            }
        }
        for (Token[] over : overs) {
            int first = overRule(over[0], next, faults);
            int second = overRule(over[1], next, faults);
            if (first != NONE && first == second) {
                fault(faults, over[1], 5);
            }
            next.overs.add(new int[] {first, second});
        }
    }

    private static int overRule(Token name, State next, TreeSet<Integer> faults) {
        int found = next.ruleNumber(name.text);
        if (found == NONE) {
            fault(faults, name, 4);
        } else if (next.rules.get(found).kind.equals("take")) {
            fault(faults, name, 5);
        }
        return found;
    }

    private static void fault(TreeSet<Integer> faults, Token token, int number) {
        faults.add(token.place * 10 + number);
    }

    private static void twice(java.util.Collection<String> told, Token name, TreeSet<Integer> faults) {
        if (told.contains(name.text)) {
            fault(faults, name, 3);
        }
    }

    private static void between(Token token, int least, int most, TreeSet<Integer> faults) {
        if (value(token) < least || value(token) > most) {
            fault(faults, token, 5);
        }
    }

    private static int value(Token token) {
        return Integer.parseInt(token.text);
    }

    private static void tellRule(List<Token> told, State next, TreeSet<Integer> faults) {
        Rule rule = new Rule();
        rule.kind = told.get(0).text;
        rule.name = told.get(1).text;
        rule.law = next.laws.size() - 1;
        if (next.ruleNumber(rule.name) != NONE) {
            fault(faults, told.get(1), 3);
        }
        next.rules.add(rule);
        next.laws.get(rule.law)[4]++;
        for (Token token : told) {
            if (token.kind.equals("VAR")) {
                rule.variables.add(token.text);
            }
        }
        int at = 3;
        int depth = 0;
        List<Token> condition = new ArrayList<>();
        for (; !told.get(at).text.equals("=>"); at++) {
            Token token = told.get(at);
            depth += token.text.equals("(") ? 1 : token.text.equals(")") ? -1 : 0;
            if (depth == 0 && token.text.equals(",")) {
                rule.conditions.add(condition);
                condition = new ArrayList<>();
            } else {
                condition.add(token);
            }
        }
        if (!condition.isEmpty()) {
            rule.conditions.add(condition);
        }
        rule.head.addAll(told.subList(at + 1, told.size()));
        for (List<Token> each : rule.conditions) {
            checkCondition(each, next, faults);
        }
        if (rule.kind.equals("take")) {
            rule.how = rule.head.get(4).text;
            rule.amount.addAll(rule.head.subList(5, rule.head.size()));
            if (!next.sums.contains(rule.head.get(0).text)) {
                fault(faults, rule.head.get(0), 4);
            }
            checkPerson(rule.head.get(2), next, faults);
            checkFormula(rule.amount, next, faults);
        } else {
            checkCondition(rule.head, next, faults);
        }
    }

    private static void checkCondition(List<Token> condition, State next, TreeSet<Integer> faults) {
        String first = condition.get(0).text;
        if (first.equals("if")) {
            checkFormula(condition.subList(1, condition.size()), next, faults);
            return;
        }
        if (first.equals("same") || first.equals("other")) {
            checkPerson(condition.get(1), next, faults);
            checkPerson(condition.get(2), next, faults);
            return;
        }
        int at = first.equals("not") ? 1 : 0;
        Token word = condition.get(at);
        int terms = switch (condition.size() - at) {
            case 1 -> 0;
            case 4 -> 1;
            default -> 2;
        };
        if (!next.words.containsKey(word.text)) {
            fault(faults, word, 4);
        } else if (next.words.get(word.text) != terms) {
            fault(faults, word, 5);
        }
        for (int i = 0; i < terms; i++) {
            checkPerson(condition.get(at + 2 + 2 * i), next, faults);
        }
    }

    private static void checkPerson(Token term, State next, TreeSet<Integer> faults) {
        if (term.kind.equals("NAME") && !next.persons.contains(term.text)) {
            fault(faults, term, 4);
        }
    }

    private static void checkFormula(List<Token> formula, State next, TreeSet<Integer> faults) {
        for (int i = 0; i < formula.size(); i++) {
            Token token = formula.get(i);
            String before = i == 0 ? "" : formula.get(i - 1).text;
            checkPerson(token, next, faults);
            if (before.equals(".")) {
                between(token, 0, 3, faults);
            }
            if (before.equals("/")) {
                between(token, 1, 999999, faults);
            }
        }
    }

    // ================================================================ what is heard

    boolean clock(int to) {
        if (to < day || to > 999999) {
            return false;
        }
        day = to;
        return true;
    }

    int testify(int word, boolean so, int a, int b, int from, int until, int weight) {
        String literal = literal(state, word, so, a, b);
        if (literal == null || testimonies.size() == 100 || from < 0 || until <= from || until > 1000000
            || weight < 1 || weight > 9) {
            return NONE;
        }
        testimonies.add(new Testimony(literal, from, until, weight, day));
        return testimonies.size() - 1;
    }

    boolean number(int person, int k, int v) {
        if (person < 0 || person >= state.persons.size() || k < 0 || k > 3 || Math.abs((long) v) > 999999) {
            return false;
        }
        numbers[person][k] = v;
        return true;
    }

    /** A literal as it is written in the judgment; null if there is none such. */
    private static String literal(State of, int word, boolean so, int a, int b) {
        if (word < 0 || word >= of.words.size()) {
            return null;
        }
        String name = new ArrayList<>(of.words.keySet()).get(word);
        int places = of.words.get(name);
        StringBuilder text = new StringBuilder(so ? "" : "not ").append(name);
        int[] who = {a, b};
        for (int i = 0; i < places; i++) {
            if (who[i] < 0 || who[i] >= of.persons.size()) {
                return null;
            }
            text.append(i == 0 ? "(" : ",").append(of.persons.get(who[i]));
        }
        return text.append(places > 0 ? ")" : "").toString();
    }

    private static String opposite(String literal) {
        return literal.startsWith("not ") ? literal.substring(4) : "not " + literal;
    }

    // ================================================================ what is judged

    int judge(int k, int e) {
        if (k < 0 || k > 999999 || e < 0 || e > 999999) {
            return NONE;
        }
        judged = state.copy();
        facts.clear();
        proved.clear();
        refuted.clear();
        literals.clear();
        instances.clear();
        applicable.clear();
        discarded.clear();
        amounts.clear();
        takes.clear();
        listLiterals();
        findFacts(k, e);
        listInstances(k, e);
        grow();
        reckonSums();
        return proved.size();
    }

    private void listLiterals() {
        int persons = Math.max(1, judged.persons.size());
        for (int word = 0; word < judged.words.size(); word++) {
            for (int a = 0; a < persons; a++) {
                for (int b = 0; b < persons; b++) {
                    for (int not = 0; not < 2; not++) {
                        String literal = literal(judged, word, not == 0, a, b);
                        if (literal != null && !literals.contains(literal)) {
                            literals.add(literal);
                        }
                    }
                }
            }
        }
    }

    private void findFacts(int k, int e) {
        Map<String, Integer> weights = new HashMap<>();
        for (Testimony each : testimonies) {
            if (each.told <= k && each.from <= e && e < each.until) {
                weights.merge(each.literal, each.weight, Integer::sum);
            }
        }
        for (String literal : literals) {
            int mine = weights.getOrDefault(literal, 0);
            if (mine >= 3 && mine > weights.getOrDefault(opposite(literal), 0)) {
                facts.add(literal);
            }
        }
    }

    private void listInstances(int k, int e) {
        for (int r = 0; r < judged.rules.size(); r++) {
            Rule rule = judged.rules.get(r);
            int[] law = judged.laws.get(rule.law);
            boolean inForce = law[1] <= k && law[2] <= e && (law[3] == NONE || e < law[3]);
            List<int[]> bindings = new ArrayList<>();
            bindings.add(new int[0]);
            for (int v = 0; v < rule.variables.size(); v++) {
                List<int[]> longer = new ArrayList<>();
                for (int[] binding : bindings) {
                    for (int person = 0; person < judged.persons.size(); person++) {
                        int[] next = Arrays.copyOf(binding, v + 1);
                        next[v] = person;
                        longer.add(next);
                    }
                }
                bindings = longer;
            }
            for (int[] who : bindings) {
                Instance instance = new Instance(r, who, headOf(rule, who));
                instances.add(instance);
                boolean holds = inForce;
                for (List<Token> condition : rule.conditions) {
                    holds = holds && (isLiteral(condition) || holds(condition, rule, who));
                }
                if (!holds) {
                    discarded.add(instance);
                }
            }
        }
    }

    private String headOf(Rule rule, int[] who) {
        if (rule.kind.equals("take")) {
            return "=" + rule.head.get(0).text + "(" + person(rule.head.get(2), rule, who) + ")";
        }
        return literalOf(rule.head, rule, who);
    }

    private static boolean isLiteral(List<Token> condition) {
        return !Set.of("if", "same", "other").contains(condition.get(0).text);
    }

    private String person(Token term, Rule rule, int[] who) {
        if (term.kind.equals("VAR")) {
            return judged.persons.get(who[new ArrayList<>(rule.variables).indexOf(term.text)]);
        }
        return term.text;
    }

    private String literalOf(List<Token> condition, Rule rule, int[] who) {
        StringBuilder text = new StringBuilder();
        int at = 0;
        if (condition.get(0).text.equals("not")) {
            text.append("not ");
            at = 1;
        }
        text.append(condition.get(at).text);
        for (int i = at + 1; i < condition.size(); i++) {
            Token token = condition.get(i);
            boolean isSign = token.kind.startsWith("'");
            text.append(isSign ? token.text : person(token, rule, who));
        }
        return text.toString();
    }

    private boolean holds(List<Token> condition, Rule rule, int[] who) {
        String first = condition.get(0).text;
        if (!first.equals("if")) {
            boolean same = person(condition.get(1), rule, who).equals(person(condition.get(2), rule, who));
            return same == first.equals("same");
        }
        int sign = 1;
        while (!Set.of("==", "!=", "<", "<=").contains(condition.get(sign).text)) {
            sign++;
        }
        Ratio left = new Formula(condition.subList(1, sign), rule, who).e();
        Ratio right = new Formula(condition.subList(sign + 1, condition.size()), rule, who).e();
        if (left == null || right == null) {
            return false;
        }
        int order = compare(left, right);
        return switch (condition.get(sign).text) {
            case "==" -> order == 0;
            case "!=" -> order != 0;
            case "<" -> order < 0;
            default -> order <= 0;
        };
    }

    private static int compare(Ratio one, Ratio another) {
        return one.upper.multiply(another.lower).compareTo(another.upper.multiply(one.lower));
    }

    /** Null stands for a BREAK, and comes through all that is reckoned with it. */
    private static Ratio ratio(BigInteger upper, BigInteger lower) {
        BigInteger divisor = upper.gcd(lower);
        BigInteger up = upper.divide(divisor);
        BigInteger low = lower.divide(divisor);
        return up.abs().compareTo(MOST_PART) > 0 || low.compareTo(MOST_PART) > 0 ? null : new Ratio(up, low);
    }

    private static Ratio whole(long value) {
        return ratio(BigInteger.valueOf(value), BigInteger.ONE);
    }

    private static Ratio plus(Ratio one, Ratio another) {
        if (one == null || another == null) {
            return null;
        }
        return ratio(one.upper.multiply(another.lower).add(another.upper.multiply(one.lower)),
            one.lower.multiply(another.lower));
    }

    private static Ratio times(Ratio one, Ratio another) {
        if (one == null || another == null) {
            return null;
        }
        return ratio(one.upper.multiply(another.upper), one.lower.multiply(another.lower));
    }

    private static Ratio minus(Ratio one) {
        return one == null ? null : new Ratio(one.upper.negate(), one.lower);
    }

    private final class Formula {
        private final List<Token> tokens;
        private final Rule rule;
        private final int[] who;
        private int at = 0;

        Formula(List<Token> tokens, Rule rule, int[] who) {
            this.tokens = tokens;
            this.rule = rule;
            this.who = who;
        }

        private boolean skip(String sign) {
            boolean found = at < tokens.size() && tokens.get(at).text.equals(sign);
            at += found ? 1 : 0;
            return found;
        }

        Ratio e() {
            Ratio total = skip("-") ? minus(part()) : part();
            while (true) {
                if (skip("+")) {
                    total = plus(total, part());
                } else if (skip("-")) {
                    total = plus(total, minus(part()));
                } else {
                    return total;
                }
            }
        }

        private Ratio part() {
            Ratio total = unit();
            while (skip("*")) {
                total = times(total, unit());
            }
            return total;
        }

        private Ratio unit() {
            if (skip("(")) {
                Ratio inside = e();
                skip(")");
                return inside;
            }
            Token token = tokens.get(at++);
            if (token.kind.equals("INT")) {
                int lower = skip("/") ? value(tokens.get(at++)) : 1;
                return ratio(BigInteger.valueOf(value(token)), BigInteger.valueOf(lower));
            }
            skip(".");
            int person = judged.persons.indexOf(person(token, rule, who));
            return whole(numbers[person][value(tokens.get(at++))]);
        }
    }

    private void grow() {
        boolean grows = true;
        while (grows) {
            grows = false;
            for (Instance instance : instances) {
                grows |= growInstance(instance);
            }
            Set<String> nowProved = new HashSet<>();
            Set<String> nowRefuted = new HashSet<>();
            for (String literal : literals) {
                if (isProved(literal)) {
                    nowProved.add(literal);
                }
                if (isRefuted(literal)) {
                    nowRefuted.add(literal);
                }
            }
            grows |= proved.addAll(nowProved);
            grows |= refuted.addAll(nowRefuted);
        }
    }

    private boolean growInstance(Instance instance) {
        if (discarded.contains(instance) || applicable.contains(instance)) {
            return false;
        }
        Rule rule = judged.rules.get(instance.rule);
        boolean allProved = true;
        for (List<Token> condition : rule.conditions) {
            if (isLiteral(condition)) {
                String literal = literalOf(condition, rule, instance.who);
                if (refuted.contains(literal)) {
                    return discarded.add(instance);
                }
                allProved &= proved.contains(literal);
            }
        }
        return allProved && applicable.add(instance);
    }

    private boolean isRuleFor(Instance instance, String literal) {
        return instance.head.equals(literal) && judged.rules.get(instance.rule).kind.equals("rule");
    }

    private boolean isProved(String literal) {
        if (facts.contains(literal)) {
            return true;
        }
        if (facts.contains(opposite(literal))) {
            return false;
        }
        boolean helped = false;
        for (Instance helper : instances) {
            helped |= isRuleFor(helper, literal) && applicable.contains(helper);
        }
        if (!helped) {
            return false;
        }
        for (Instance attacker : instances) {
            if (!attacker.head.equals(opposite(literal)) || discarded.contains(attacker)) {
                continue;
            }
            boolean answered = false;
            for (Instance helper : instances) {
                answered |= isRuleFor(helper, literal) && applicable.contains(helper)
                    && isAbove(judged, helper.rule, attacker.rule);
            }
            if (!answered) {
                return false;
            }
        }
        return true;
    }

    private boolean isRefuted(String literal) {
        if (facts.contains(literal)) {
            return false;
        }
        if (facts.contains(opposite(literal))) {
            return true;
        }
        boolean hopeless = true;
        for (Instance helper : instances) {
            hopeless &= !isRuleFor(helper, literal) || discarded.contains(helper);
        }
        return hopeless || strikerOf(literal) != null;
    }

    /** The first instance against a literal, as the last words of REFUTED tell. */
    private Instance strikerOf(String literal) {
        for (Instance attacker : instances) {
            if (!attacker.head.equals(opposite(literal)) || !applicable.contains(attacker)) {
                continue;
            }
            boolean unanswered = true;
            for (Instance helper : instances) {
                unanswered &= !isRuleFor(helper, literal) || discarded.contains(helper)
                    || !isAbove(judged, helper.rule, attacker.rule);
            }
            if (unanswered) {
                return attacker;
            }
        }
        return null;
    }

    private static boolean isAbove(State of, int r, int s) {
        for (int[] over : of.overs) {
            if (over[0] == r && over[1] == s || over[0] == s && over[1] == r) {
                return over[0] == r;
            }
        }
        int[] mine = of.laws.get(of.rules.get(r).law);
        int[] other = of.laws.get(of.rules.get(s).law);
        if (mine[0] != other[0]) {
            return mine[0] > other[0];
        }
        return mine[1] != other[1] ? mine[1] > other[1] : mine[2] > other[2];
    }

    private void reckonSums() {
        for (String sum : judged.sums) {
            for (String person : judged.persons) {
                String cell = sum + "(" + person + ")";
                reckonSum(cell);
            }
        }
    }

    private void reckonSum(String cell) {
        Ratio amount = whole(0);
        Ratio factor = whole(1);
        Ratio most = null;
        Ratio least = null;
        boolean broken = false;
        int many = 0;
        for (Instance instance : instances) {
            if (!instance.head.equals("=" + cell) || !applicable.contains(instance)) {
                continue;
            }
            many++;
            Rule rule = judged.rules.get(instance.rule);
            Ratio e = new Formula(rule.amount, rule, instance.who).e();
            if (e == null) {
                broken = true;
                continue;
            }
            switch (rule.how) {
                case "+" -> amount = plus(amount, e);
                case "*" -> factor = times(factor, e);
                case "most" -> most = most == null || compare(e, most) < 0 ? e : most;
                default -> least = least == null || compare(e, least) > 0 ? e : least;
            }
        }
        Ratio total = broken ? null : times(amount, factor);
        if (total != null && most != null && compare(total, most) > 0) {
            total = most;
        }
        if (total != null && least != null && compare(total, least) < 0) {
            total = least;
        }
        amounts.put(cell, total);
        takes.put(cell, many);
    }

    // ================================================================ what is asked

    int status(int word, boolean so, int a, int b) {
        String literal = judged == null ? null : literal(judged, word, so, a, b);
        if (literal == null) {
            return NONE;
        }
        return proved.contains(literal) ? 1 : refuted.contains(literal) ? 0 : 2;
    }

    int why(int word, boolean so, int a, int b, int what) {
        String literal = judged == null ? null : literal(judged, word, so, a, b);
        if (literal == null || what < 0 || what > 4) {
            return NONE;
        }
        Instance reason = reasonOf(literal);
        boolean settled = proved.contains(literal) || refuted.contains(literal);
        boolean fact = facts.contains(literal) || facts.contains(opposite(literal));
        if (what == 0) {
            return !settled ? 3 : fact ? 0 : reason == null ? 2 : 1;
        }
        if (reason == null || fact || !settled) {
            return NONE;
        }
        if (what == 1) {
            return reason.rule;
        }
        return what - 2 < reason.who.length ? reason.who[what - 2] : NONE;
    }

    private Instance reasonOf(String literal) {
        if (!proved.contains(literal)) {
            return strikerOf(literal);
        }
        for (Instance helper : instances) {
            if (isRuleFor(helper, literal) && applicable.contains(helper)) {
                return helper;
            }
        }
        return null;
    }

    long sum(int s, int person, int what) {
        if (judged == null || s < 0 || s >= judged.sums.size() || person < 0 || person >= judged.persons.size()) {
            return NONE;
        }
        String cell = judged.sums.get(s) + "(" + judged.persons.get(person) + ")";
        Ratio amount = amounts.get(cell);
        return switch (what) {
            case 0 -> amount == null ? 0 : amount.upper.longValueExact();
            case 1 -> amount == null ? 0 : amount.lower.longValueExact();
            case 2 -> takes.get(cell);
            case 3 -> amount == null ? 1 : 0;
            default -> NONE;
        };
    }

    int text() {
        if (judged == null) {
            return NONE;
        }
        StringBuilder text = new StringBuilder();
        for (String literal : literals) {
            if (proved.contains(literal)) {
                text.append(literal);
                text.append(facts.contains(literal) ? " fact"
                    : " by " + judged.rules.get(reasonOf(literal).rule).name);
                text.append("\n");
            }
        }
        for (String sum : judged.sums) {
            for (String person : judged.persons) {
                String cell = sum + "(" + person + ")";
                Ratio amount = amounts.get(cell);
                if (takes.get(cell) > 0) {
                    String parts = amount == null ? "broken"
                        : amount.lower.equals(BigInteger.ONE) ? "" + amount.upper
                        : amount.upper + "/" + amount.lower;
                    text.append(cell).append(" ").append(parts).append("\n");
                }
            }
        }
        out = text.toString();
        return out.length();
    }

    int out(int i) {
        return i < 0 || i >= Math.min(4000, out.length()) ? NONE : out.charAt(i);
    }

    int rule(int r, int what) {
        if (r < 0 || r >= state.rules.size()) {
            return NONE;
        }
        Rule rule = state.rules.get(r);
        boolean take = rule.kind.equals("take");
        boolean not = rule.head.get(0).text.equals("not");
        String subject = rule.head.get(not ? 1 : 0).text;
        return switch (what) {
            case 0 -> rule.law;
            case 1 -> List.of("rule", "bar", "take").indexOf(rule.kind);
            case 2 -> rule.conditions.size();
            case 3 -> rule.variables.size();
            case 4 -> take ? state.sums.indexOf(subject) : new ArrayList<>(state.words.keySet()).indexOf(subject);
            case 5 -> not ? 0 : 1;
            default -> NONE;
        };
    }

    int law(int l, int what) {
        return l < 0 || l >= state.laws.size() || what < 0 || what > 4 ? NONE : state.laws.get(l)[what];
    }

    int above(int r, int s) {
        for (int each : new int[] {r, s}) {
            if (each < 0 || each >= state.rules.size() || state.rules.get(each).kind.equals("take")) {
                return NONE;
            }
        }
        return r != s && isAbove(state, r, s) ? 1 : 0;
    }

    int count(int what) {
        return switch (what) {
            case 0 -> state.persons.size();
            case 1 -> state.words.size();
            case 2 -> state.sums.size();
            case 3 -> state.laws.size();
            case 4 -> state.rules.size();
            case 5 -> state.overs.size();
            case 6 -> testimonies.size();
            case 7 -> day;
            case 8 -> tape.length();
            case 9 -> proved.size();
            case 10 -> refuted.size();
            case 11 -> literals.size() - proved.size() - refuted.size();
            case 12 -> applicable.size();
            default -> NONE;
        };
    }
}
