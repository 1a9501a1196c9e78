import java.util.Arrays;

/** A bench of statutes: laws are read from a tape, testimonies are heard, and what follows is judged. */
public final class StatuteBench {
    public static final int NONE = -1;

    private static final int MOST_BYTES = 4000;
    private static final int BYTES_FED = 20;
    private static final int LAST_DAY = 999999;
    private static final int MOST_NUMBER = 999999;
    private static final int MOST_WEIGHT = 9;
    private static final int FACT_WEIGHT = 3;

    private static final int MOST_TOKENS = 1200;
    private static final int MOST_PERSONS = 5;
    private static final int MOST_WORDS = 12;
    private static final int MOST_PLACES = 2;
    private static final int MOST_SUMS = 4;
    private static final int MOST_LAWS = 10;
    private static final int MOST_RANK = 9;
    private static final int MOST_RULES = 30;
    private static final int MOST_CONDITIONS = 6;
    private static final int MOST_VARIABLES = 3;
    private static final int MOST_BRACKETS = 8;
    private static final int MOST_OVERS = 20;
    private static final int MOST_TESTIMONIES = 100;
    private static final int NUMBERS = 4;
    private static final int LITERALS = MOST_WORDS * MOST_PERSONS * MOST_PERSONS * 2;
    private static final int CELLS = MOST_SUMS * MOST_PERSONS;
    private static final int BINDINGS = MOST_PERSONS * MOST_PERSONS * MOST_PERSONS;

    private static final int SYNTAX = 1;
    private static final int ROOM = 2;
    private static final int TWICE = 3;
    private static final int UNKNOWN = 4;
    private static final int WRONG = 5;

    // The kind of a sign of one character is that character; all other kinds lie above them.
    private static final int ARROW = 256;
    private static final int EQUAL = 257;
    private static final int UNLIKE = 258;
    private static final int AT_MOST = 259;
    private static final int NAME = 260;
    private static final int VARIABLE = 261;
    private static final int INTEGER = 262;
    private static final int TEXT_END = 263;
    private static final int NO_TOKEN = 264;

    // The kinds of the words in quotes, in the order of KEYWORDS.
    private static final String KEYWORDS =
        "person word sum law rank from until end over rule bar take most least same other if not";
    private static final int KEYWORD_COUNT = 18;
    private static final int PERSON = 300;
    private static final int WORD = 301;
    private static final int SUM = 302;
    private static final int LAW = 303;
    private static final int RANK = 304;
    private static final int FROM = 305;
    private static final int UNTIL = 306;
    private static final int END = 307;
    private static final int OVER = 308;
    private static final int RULE = 309;
    private static final int BAR = 310;
    private static final int TAKE = 311;
    private static final int MOST = 312;
    private static final int LEAST = 313;
    private static final int SAME = 314;
    private static final int OTHER = 315;
    private static final int IF = 316;
    private static final int NOT = 317;

    // The columns of a law's row; the first three are also the order in which laws are above others.
    private static final int LAW_RANK = 0;
    private static final int LAW_MADE = 1;
    private static final int LAW_FROM = 2;
    private static final int LAW_UNTIL = 3;
    private static final int LAW_RULES = 4;
    private static final int LAW_COLUMNS = 5;

    private static final int KIND_RULE = 0;
    private static final int KIND_TAKE = 2;

    // A step of a formula has its operation above its operand.
    private static final int OPERAND_BITS = 20;
    private static final int OPERAND_MASK = (1 << OPERAND_BITS) - 1;
    private static final int PUSH = 0;
    private static final int DIVIDE = 1;
    private static final int FETCH = 2;
    private static final int NEGATE = 3;
    private static final int ADD = 4;
    private static final int SUBTRACT = 5;
    private static final int MULTIPLY = 6;

    private static final int REFUTED = 0;
    private static final int PROVED = 1;
    private static final int OPEN = 2;
    // The tallies of a judgment: of each of the three marks, and of instances.
    private static final int TALLY_APPLICABLE = 3;
    private static final int TALLIES = 4;

    private static final int WAITING = 0;
    private static final int APPLICABLE = 1;
    private static final int DISCARDED = 2;

    // A reason is the key of an instance, or one of these two.
    private static final int BY_NOTHING = -1;
    private static final int BY_FACT = -2;

    private final Bytes tape;
    private final Bytes written;
    private final Code code;
    private final Grammar grammar;
    private final Testimony[] testimonies;
    private int testimonyCount;
    private int day;
    private int faultPlace;
    private Judgment judgment;

    public StatuteBench() {
        tape = new Bytes();
        written = new Bytes();
        code = new Code();
        grammar = new Grammar(code);
        testimonies = new Testimony[MOST_TESTIMONIES];
        faultPlace = NONE;
    }

    public int feed(int a, int b, int c, int d, int e) {
        if (tape.length + BYTES_FED > MOST_BYTES) {
            return NONE;
        }
        tape.addWord(a);
        tape.addWord(b);
        tape.addWord(c);
        tape.addWord(d);
        tape.addWord(e);
        return tape.length;
    }

    public int back(int n) {
        if (n < 0 || n > tape.length) {
            return NONE;
        }
        tape.length -= n;
        return tape.length;
    }

    public int read() {
        grammar.begin(tape, day);
        for (int i = 0; i <= MOST_TOKENS && grammar.goesOn(); i++) {
            if (grammar.isAtRule()) {
                grammar.tellRule();
            } else {
                grammar.tell();
            }
        }
        int fault = grammar.finish();
        faultPlace = grammar.placeOfFault();
        tape.length = 0;
        return fault;
    }

    public int place() {
        return faultPlace;
    }

    public boolean clock(int day) {
        if (day < this.day || day > LAST_DAY) {
            return false;
        }
        this.day = day;
        return true;
    }

    public int testify(int word, boolean so, int a, int b, int from, int until, int weight) {
        int literal = code.literal(word, so, a, b, code.words.size, code.persons.size);
        boolean rightTime = from >= 0 && from < until && until <= LAST_DAY + 1;
        boolean rightWeight = weight >= 1 && weight <= MOST_WEIGHT;
        if (literal == NONE || !rightTime || !rightWeight || testimonyCount >= MOST_TESTIMONIES) {
            return NONE;
        }
        testimonies[testimonyCount] = new Testimony(literal, from, until, weight, day);
        testimonyCount++;
        return testimonyCount - 1;
    }

    public boolean number(int person, int k, int v) {
        boolean there = person >= 0 && person < code.persons.size && k >= 0 && k < NUMBERS;
        if (!there || v < -MOST_NUMBER || v > MOST_NUMBER) {
            return false;
        }
        code.numbers[person * NUMBERS + k] = v;
        return true;
    }

    public int judge(int k, int e) {
        if (!isDay(k) || !isDay(e)) {
            return NONE;
        }
        Judgment now = judgment == null ? new Judgment(code) : judgment;
        judgment = now;
        now.begin();
        for (int i = 0; i < testimonyCount; i++) {
            now.hear(testimonies[i], k, e);
        }
        now.findFacts();
        for (int r = 0; r < code.rules.size; r++) {
            now.gather(r, k, e);
        }
        // Each round but the last settles a literal at least.
        boolean goesOn = true;
        for (int i = 0; i <= LITERALS && goesOn; i++) {
            now.settleInstances();
            goesOn = now.settleLiterals();
        }
        now.explain();
        for (int cell = 0; cell < CELLS; cell++) {
            now.reckon(cell);
        }
        return now.tallies[PROVED];
    }

    public int status(int word, boolean so, int a, int b) {
        if (judgment == null) {
            return NONE;
        }
        int literal = judgment.find(word, so, a, b);
        return literal == NONE ? NONE : judgment.marks[literal];
    }

    public int why(int word, boolean so, int a, int b, int what) {
        if (judgment == null) {
            return NONE;
        }
        int literal = judgment.find(word, so, a, b);
        return literal == NONE ? NONE : judgment.reason(literal, what);
    }

    public long sum(int s, int person, int what) {
        return judgment == null ? NONE : judgment.amount(s, person, what);
    }

    public int text() {
        if (judgment == null) {
            return NONE;
        }
        written.length = 0;
        for (int literal = 0; literal < LITERALS; literal++) {
            judgment.writeLiteral(literal, written);
        }
        for (int cell = 0; cell < CELLS; cell++) {
            judgment.writeSum(cell, written);
        }
        return written.length;
    }

    public int out(int i) {
        return written.byteAt(i);
    }

    public int rule(int r, int what) {
        Rule asked = code.ruleAt(r);
        if (asked == null) {
            return NONE;
        }
        switch (what) {
            case 0: return asked.law;
            case 1: return asked.kind;
            case 2: return asked.size;
            case 3: return asked.variables;
            case 4: return asked.head.subject;
            case 5: return asked.head.so ? 1 : 0;
            default: return NONE;
        }
    }

    public int law(int l, int what) {
        return code.lawColumn(l, what);
    }

    public int above(int r, int s) {
        if (!code.isRanked(r) || !code.isRanked(s)) {
            return NONE;
        }
        return code.isAbove(r, s) ? 1 : 0;
    }

    public int count(int what) {
        switch (what) {
            case 0: return code.persons.size;
            case 1: return code.words.size;
            case 2: return code.sums.size;
            case 3: return code.laws.size;
            case 4: return code.rules.size;
            case 5: return code.overs;
            case 6: return testimonyCount;
            case 7: return day;
            case 8: return tape.length;
            case 9: return judgedTally(PROVED);
            case 10: return judgedTally(REFUTED);
            case 11: return judgedTally(OPEN);
            case 12: return judgedTally(TALLY_APPLICABLE);
            default: return NONE;
        }
    }

    private static boolean isDay(int d) {
        return d >= 0 && d <= LAST_DAY;
    }

    private int judgedTally(int which) {
        return judgment == null ? 0 : judgment.tallies[which];
    }

    /** A row of bytes of which the first 4,000 are kept, while all are counted. */
    private static final class Bytes {
        private static final int FIRST_ROOM = 64;

        private byte[] kept = new byte[0];
        private int length;

        void add(int value) {
            if (length >= kept.length && length < MOST_BYTES) {
                int room = Math.max(FIRST_ROOM, kept.length * 2);
                kept = Arrays.copyOf(kept, Math.min(room, MOST_BYTES));
            }
            if (length >= 0 && length < kept.length) {
                kept[length] = (byte) value;
            }
            length++;
        }

        int byteAt(int i) {
            return i >= 0 && i < length && i < kept.length ? kept[i] & 255 : NONE;
        }

        void addWord(int word) {
            add(word >> 24);
            add(word >> 16);
            add(word >> 8);
            add(word);
        }

        void addText(String added) {
            for (int i = 0; i < added.length(); i++) {
                add(added.charAt(i));
            }
        }

        void addName(long name) {
            for (int shift = Tokens.NAME_BITS - Tokens.LETTER_BITS; shift >= 0; shift -= Tokens.LETTER_BITS) {
                int letter = (int) (name >> shift) & Tokens.LETTER_MASK;
                if (letter > Tokens.LETTERS) {
                    add('0' + letter - Tokens.LETTERS - 1);
                } else if (letter > 0) {
                    add('a' + letter - 1);
                }
            }
        }

        void addNumber(long value) {
            if (value < 0) {
                add('-');
            }
            long size = Math.abs(value);
            long unit = 1;
            for (int i = 0; i < 18 && size / unit > 9; i++) {
                unit *= 10;
            }
            for (int i = 0; i < 19 && unit > 0; i++) {
                add('0' + (int) (size / unit % 10));
                unit /= 10;
            }
        }
    }

    /** The tokens of one text, up to the first thing that is none. */
    private static final class Tokens {
        private static final int NAME_LENGTH = 10;
        private static final int INTEGER_LENGTH = 6;
        private static final int LETTERS = 26;
        // A name is packed into a long, its first letter highest; 0 stands for no letter.
        private static final int LETTER_BITS = 6;
        private static final int LETTER_MASK = 63;
        private static final int NAME_BITS = NAME_LENGTH * LETTER_BITS;

        private final long[] keywords = new long[KEYWORD_COUNT];
        private int[] kinds = new int[0];
        private int[] starts = new int[0];
        private long[] values = new long[0];
        private int size;
        private Bytes source;
        private int at;

        Tokens() {
            int keyword = 0;
            for (int i = 0; i < KEYWORDS.length(); i++) {
                char letter = KEYWORDS.charAt(i);
                if (letter == ' ') {
                    keyword++;
                } else if (keyword < KEYWORD_COUNT) {
                    keywords[keyword] = keywords[keyword] << LETTER_BITS | letter - 'a' + 1;
                }
            }
        }

        /** One token beyond the most is kept, since its place is the fault's. */
        void scan(Bytes tape) {
            source = tape;
            at = 0;
            size = 0;
            makeRoom(Math.min(tape.length, MOST_TOKENS) + 1);
            boolean goesOn = true;
            for (int i = 0; i < kinds.length && i <= MOST_TOKENS && goesOn; i++) {
                skipBlanks();
                starts[i] = at;
                values[i] = 0;
                kinds[i] = next(i);
                size = i + 1;
                goesOn = kinds[i] != TEXT_END && kinds[i] != NO_TOKEN;
            }
        }

        int startAt(int i) {
            return i >= 0 && i < size ? starts[i] : NONE;
        }

        long valueAt(int i) {
            return i >= 0 && i < size ? values[i] : 0;
        }

        private void makeRoom(int room) {
            if (kinds.length < room) {
                kinds = new int[room];
                starts = new int[room];
                values = new long[room];
            }
        }

        private void skipBlanks() {
            while (at < source.length && isBlank(source.byteAt(at))) {
                at++;
            }
        }

        private int next(int i) {
            int first = source.byteAt(at);
            if (first == NONE) {
                return TEXT_END;
            }
            if (isSmall(first)) {
                return nextName(i);
            }
            if (isDigit(first)) {
                return nextInteger(i);
            }
            at++;
            if (first >= 'A' && first <= 'Z') {
                values[i] = first;
                return VARIABLE;
            }
            return nextSign(first);
        }

        private int nextName(int i) {
            int start = at;
            long name = 0;
            while (at < source.length && (isSmall(source.byteAt(at)) || isDigit(source.byteAt(at)))) {
                int letter = source.byteAt(at);
                name = name << LETTER_BITS | (isDigit(letter) ? letter - '0' + LETTERS + 1 : letter - 'a' + 1);
                at++;
            }
            if (at - start > NAME_LENGTH) {
                return NO_TOKEN;
            }
            values[i] = name;
            for (int keyword = 0; keyword < KEYWORD_COUNT; keyword++) {
                if (keywords[keyword] == name) {
                    return PERSON + keyword;
                }
            }
            return NAME;
        }

        private int nextInteger(int i) {
            int start = at;
            long value = 0;
            while (at < source.length && isDigit(source.byteAt(at))) {
                value = value * 10 + source.byteAt(at) - '0';
                at++;
            }
            if (at - start > INTEGER_LENGTH) {
                return NO_TOKEN;
            }
            values[i] = value;
            return INTEGER;
        }

        private int nextSign(int first) {
            int second = source.byteAt(at);
            int kind = signOfTwo(first, second);
            if (kind != NO_TOKEN) {
                at++;
                return kind;
            }
            switch (first) {
                case ':': case ';': case ',': case '.': case '(': case ')':
                case '+': case '-': case '*': case '/': case '<':
                    return first;
                default:
                    return NO_TOKEN;
            }
        }

        private static int signOfTwo(int first, int second) {
            if (first == '=' && second == '>') {
                return ARROW;
            }
            if (second != '=') {
                return NO_TOKEN;
            }
            switch (first) {
                case '=': return EQUAL;
                case '!': return UNLIKE;
                case '<': return AT_MOST;
                default: return NO_TOKEN;
            }
        }

        private static boolean isBlank(int c) {
            return c == 9 || c == 10 || c == 13 || c == 32;
        }

        private static boolean isSmall(int c) {
            return c >= 'a' && c <= 'z';
        }

        private static boolean isDigit(int c) {
            return c >= '0' && c <= '9';
        }
    }

    /** Reads one text into the code, and finds its fault. */
    private static final class Grammar {
        private final Code code;
        private final Tokens tokens = new Tokens();
        private final int[] variables = new int[MOST_VARIABLES];
        private final int[] overTokens = new int[MOST_OVERS];
        private int variableCount;
        private int overCount;
        private int made;
        private boolean lawIsOpen;
        // The token that stands next: its number, kind, place and value; behind a stop there is none.
        private int at;
        private int kind;
        private int here;
        private long value;
        // A stop (syntax, room) ends the reading; a flaw (twice, unknown, wrong) counts only without a stop.
        private int stop;
        private int stopPlace;
        private int flaw;
        private int flawPlace;

        Grammar(Code code) {
            this.code = code;
        }

        void begin(Bytes tape, int day) {
            tokens.scan(tape);
            made = day;
            overCount = 0;
            lawIsOpen = false;
            stop = 0;
            stopPlace = NONE;
            flaw = 0;
            flawPlace = NONE;
            lookAt(0);
        }

        boolean goesOn() {
            return stop == 0 && (lawIsOpen || kind != TEXT_END);
        }

        boolean isAtRule() {
            return lawIsOpen && (kind == RULE || kind == BAR || kind == TAKE);
        }

        /** Reads a TELL, of a law its head alone, or the end of a law. */
        void tell() {
            if (lawIsOpen) {
                expect(END);
                lawIsOpen = false;
                return;
            }
            switch (kind) {
                case PERSON: tellOne(PERSON, code.persons); break;
                case SUM: tellOne(SUM, code.sums); break;
                case WORD: tellWord(); break;
                case LAW: tellLaw(); break;
                case OVER: tellOver(); break;
                default: stopAt(SYNTAX); break;
            }
        }

        void tellRule() {
            int told = kind;
            variableCount = 0;
            expect(told);
            Rule rule = code.newRule(tellName(code.rules), told - RULE);
            if (rule == null) {
                return;
            }
            expect(':');
            boolean goesOn = kind != ARROW;
            // One more than the most is tried, since that one is the fault.
            for (int i = 0; i <= MOST_CONDITIONS && goesOn; i++) {
                Condition condition = startCondition(rule);
                if (condition == null) {
                    return;
                }
                switch (kind) {
                    case IF: comparison(condition); break;
                    case SAME: case OTHER: likeness(condition); break;
                    default: literal(condition); break;
                }
                goesOn = skip(',');
            }
            expect(ARROW);
            if (told == TAKE) {
                takeHead(rule.head);
            } else {
                literal(rule.head);
            }
            expect(';');
            rule.variables = variableCount;
        }

        /** Keeps what was told, or drops it all: the number of the fault, or 0. */
        int finish() {
            // Rules of an over may be told behind it, so overs wait for the text's end.
            for (int i = 0; i < overCount && stop == 0; i++) {
                resolveOver(overTokens[i]);
            }
            int fault = stop != 0 ? stop : flaw;
            if (fault == 0) {
                code.keep();
            } else {
                code.drop();
            }
            return fault;
        }

        int placeOfFault() {
            return stop != 0 ? stopPlace : flawPlace;
        }

        private void lookAt(int token) {
            boolean there = token >= 0 && token < tokens.size;
            at = token;
            kind = there ? tokens.kinds[token] : NO_TOKEN;
            here = there ? tokens.starts[token] : NONE;
            value = there ? tokens.values[token] : 0;
        }

        private void stopAt(int fault) {
            if (stop == 0) {
                stop = fault;
                stopPlace = here;
                kind = NO_TOKEN;
            }
        }

        private void note(int fault, int place) {
            if (flaw == 0 || place < flawPlace || place == flawPlace && fault < flaw) {
                flaw = fault;
                flawPlace = place;
            }
        }

        private boolean expect(int wanted) {
            if (kind != wanted) {
                stopAt(SYNTAX);
                return false;
            }
            if (at >= MOST_TOKENS) {
                stopAt(ROOM);
                return false;
            }
            lookAt(at + 1);
            return true;
        }

        private boolean skip(int wanted) {
            return kind == wanted && expect(wanted);
        }

        private int integer(int least, int most) {
            int place = here;
            int told = (int) value;
            if (!expect(INTEGER)) {
                return least;
            }
            if (told < least || told > most) {
                note(WRONG, place);
                return least;
            }
            return told;
        }

        /** Adds the NAME that stands here, even one told already: it takes room all the same. */
        private int tellName(Roll roll) {
            if (kind == NAME && roll.isFull()) {
                stopAt(ROOM);
            }
            int place = here;
            long name = value;
            if (!expect(NAME)) {
                return NONE;
            }
            if (roll.find(name) != NONE) {
                note(TWICE, place);
            }
            return roll.add(name);
        }

        private int knownName(Roll roll) {
            int place = here;
            int found = roll.find(value);
            if (expect(NAME) && found == NONE) {
                note(UNKNOWN, place);
            }
            return found;
        }

        private void tellOne(int keyword, Roll roll) {
            expect(keyword);
            tellName(roll);
            expect(';');
        }

        private void tellWord() {
            expect(WORD);
            int word = tellName(code.words);
            int places = integer(0, MOST_PLACES);
            expect(';');
            code.setPlaces(word, places);
        }

        private void tellLaw() {
            expect(LAW);
            int law = tellName(code.laws);
            expect(RANK);
            int rank = integer(0, MOST_RANK);
            expect(FROM);
            int from = integer(0, LAST_DAY);
            int until = skip(UNTIL) ? integer(from + 1, LAST_DAY) : NONE;
            lawIsOpen = expect(';');
            code.setLaw(law, rank, made, from, until);
        }

        private void tellOver() {
            if (code.overs + overCount >= MOST_OVERS) {
                stopAt(ROOM);
            }
            expect(OVER);
            int token = at;
            expect(NAME);
            expect(NAME);
            if (expect(';') && overCount < MOST_OVERS) {
                overTokens[overCount] = token;
                overCount++;
            }
        }

        private void resolveOver(int token) {
            int first = code.rules.find(tokens.valueAt(token));
            int second = code.rules.find(tokens.valueAt(token + 1));
            noteRule(first, tokens.startAt(token));
            noteRule(second, tokens.startAt(token + 1));
            if (first == second && first != NONE) {
                note(WRONG, tokens.startAt(token + 1));
            }
            code.addOver(first, second);
        }

        private void noteRule(int rule, int place) {
            if (rule == NONE) {
                note(UNKNOWN, place);
            } else if (!code.isRanked(rule)) {
                note(WRONG, place);
            }
        }

        /** A place for the condition that stands here; null, and a stop, if there is none or no room. */
        private Condition startCondition(Rule rule) {
            switch (kind) {
                case NAME: case NOT: case SAME: case OTHER: case IF: break;
                default:
                    stopAt(SYNTAX);
                    return null;
            }
            Condition condition = rule.newCondition();
            if (condition == null) {
                stopAt(ROOM);
            }
            return condition;
        }

        private void literal(Condition condition) {
            condition.kind = NAME;
            condition.so = !skip(NOT);
            int place = here;
            int word = knownName(code.words);
            int terms = 0;
            condition.subject = word;
            condition.first = 0;
            condition.second = 0;
            if (skip('(')) {
                condition.first = term();
                terms = 1;
                if (skip(',')) {
                    condition.second = term();
                    terms = 2;
                }
                expect(')');
            }
            if (word != NONE && code.placesOf(word) != terms) {
                note(WRONG, place);
            }
        }

        private void likeness(Condition condition) {
            condition.kind = kind;
            expect(kind);
            condition.first = term();
            condition.second = term();
        }

        private void comparison(Condition condition) {
            expect(IF);
            condition.start = code.programSize;
            formula(0);
            condition.middle = code.programSize;
            condition.kind = kind;
            switch (condition.kind) {
                case EQUAL: case UNLIKE: case '<': case AT_MOST: expect(condition.kind); break;
                default: stopAt(SYNTAX); break;
            }
            formula(0);
            condition.end = code.programSize;
        }

        private void takeHead(Condition head) {
            head.so = true;
            head.subject = knownName(code.sums);
            expect('(');
            head.first = term();
            expect(')');
            head.kind = kind;
            switch (head.kind) {
                case '+': case '*': case MOST: case LEAST: expect(head.kind); break;
                default: stopAt(SYNTAX); break;
            }
            head.start = code.programSize;
            formula(0);
            head.end = code.programSize;
        }

        /** A term is a person's number, or MOST_PERSONS and the number of a variable. */
        private int term() {
            int place = here;
            if (kind == VARIABLE) {
                int variable = variableNumber((int) value);
                if (variable == NONE) {
                    stopAt(ROOM);
                }
                expect(VARIABLE);
                return MOST_PERSONS + Math.max(0, variable);
            }
            int person = code.persons.find(value);
            if (expect(NAME) && person == NONE) {
                note(UNKNOWN, place);
            }
            return Math.max(0, person);
        }

        private int variableNumber(int letter) {
            for (int i = 0; i < variableCount; i++) {
                if (variables[i] == letter) {
                    return i;
                }
            }
            if (variableCount >= MOST_VARIABLES) {
                return NONE;
            }
            variables[variableCount] = letter;
            variableCount++;
            return variableCount - 1;
        }

        /** Adds the steps of an E in the order in which they are worked out. */
        private void formula(int depth) {
            int waiting = skip('-') ? NEGATE : NONE;
            boolean goesOn = true;
            for (int i = 0; i < MOST_TOKENS && goesOn; i++) {
                unit(depth);
                for (int j = 0; j < MOST_TOKENS && skip('*'); j++) {
                    unit(depth);
                    code.addStep(MULTIPLY, 0);
                }
                if (waiting != NONE) {
                    code.addStep(waiting, 0);
                }
                waiting = kind == '+' ? ADD : SUBTRACT;
                goesOn = skip('+') || skip('-');
            }
        }

        private void unit(int depth) {
            if (kind == INTEGER) {
                code.addStep(PUSH, integer(0, MOST_NUMBER));
                if (skip('/')) {
                    code.addStep(DIVIDE, integer(1, MOST_NUMBER));
                }
            } else if (kind == '(') {
                if (depth >= MOST_BRACKETS) {
                    stopAt(ROOM);
                    return;
                }
                expect('(');
                formula(depth + 1);
                expect(')');
            } else {
                int person = term();
                expect('.');
                code.addStep(FETCH, person * NUMBERS + integer(0, NUMBERS - 1));
            }
        }
    }

    /** All that the texts have told; what a text with a fault told is dropped. */
    private static final class Code {
        private static final int FIRST_STEPS = 16;

        private final Roll persons = new Roll(MOST_PERSONS);
        private final Roll words = new Roll(MOST_WORDS);
        private final Roll sums = new Roll(MOST_SUMS);
        private final Roll laws = new Roll(MOST_LAWS);
        private final Roll rules = new Roll(MOST_RULES);
        private final int[] places = new int[MOST_WORDS];
        private final int[] numbers = new int[MOST_PERSONS * NUMBERS];
        private final int[] lawRows = new int[MOST_LAWS * LAW_COLUMNS];
        private final Rule[] ruleRows = new Rule[MOST_RULES];
        private final int[] higher = new int[MOST_OVERS];
        private final int[] lower = new int[MOST_OVERS];
        private int overs;
        private int keptOvers;
        private int[] program = new int[FIRST_STEPS];
        private int programSize;
        private int keptProgram;

        void keep() {
            persons.kept = persons.size;
            words.kept = words.size;
            sums.kept = sums.size;
            laws.kept = laws.size;
            rules.kept = rules.size;
            keptOvers = overs;
            keptProgram = programSize;
        }

        void drop() {
            persons.size = persons.kept;
            words.size = words.kept;
            sums.size = sums.kept;
            laws.size = laws.kept;
            rules.size = rules.kept;
            overs = keptOvers;
            programSize = keptProgram;
        }

        int placesOf(int word) {
            return word >= 0 && word < words.size ? places[word] : NONE;
        }

        void setPlaces(int word, int many) {
            if (word >= 0 && word < words.size) {
                places[word] = many;
            }
        }

        int lawColumn(int l, int column) {
            boolean there = l >= 0 && l < laws.size && column >= 0 && column < LAW_COLUMNS;
            return there ? lawRows[l * LAW_COLUMNS + column] : NONE;
        }

        void setLaw(int l, int rank, int made, int from, int until) {
            if (l < 0 || l >= laws.size) {
                return;
            }
            int row = l * LAW_COLUMNS;
            lawRows[row + LAW_RANK] = rank;
            lawRows[row + LAW_MADE] = made;
            lawRows[row + LAW_FROM] = from;
            lawRows[row + LAW_UNTIL] = until;
            lawRows[row + LAW_RULES] = 0;
        }

        Rule ruleAt(int r) {
            return r >= 0 && r < rules.size ? ruleRows[r] : null;
        }

        /** Makes rule r one of the latest law; the rule of a dropped text is used again. */
        Rule newRule(int r, int kind) {
            if (r < 0 || r >= rules.size || laws.size == 0) {
                return null;
            }
            if (ruleRows[r] == null) {
                ruleRows[r] = new Rule();
            }
            ruleRows[r].law = laws.size - 1;
            ruleRows[r].kind = kind;
            ruleRows[r].size = 0;
            lawRows[(laws.size - 1) * LAW_COLUMNS + LAW_RULES]++;
            return ruleRows[r];
        }

        void addOver(int first, int second) {
            if (overs < MOST_OVERS) {
                higher[overs] = first;
                lower[overs] = second;
                overs++;
            }
        }

        void addStep(int operation, int operand) {
            if (programSize >= program.length) {
                program = Arrays.copyOf(program, program.length * 2);
            }
            program[programSize] = operation << OPERAND_BITS | operand;
            programSize++;
        }

        boolean isRanked(int r) {
            Rule rule = ruleAt(r);
            return rule != null && rule.kind != KIND_TAKE;
        }

        boolean isAbove(int r, int s) {
            Rule one = ruleAt(r);
            Rule another = ruleAt(s);
            if (one == null || another == null) {
                return false;
            }
            for (int i = 0; i < overs; i++) {
                if (higher[i] == r && lower[i] == s) {
                    return true;
                }
                if (higher[i] == s && lower[i] == r) {
                    return false;
                }
            }
            for (int column = LAW_RANK; column <= LAW_FROM; column++) {
                int mine = lawColumn(one.law, column);
                int yours = lawColumn(another.law, column);
                if (mine != yours) {
                    return mine > yours;
                }
            }
            return false;
        }

        boolean isInForce(Rule rule, int known, int event) {
            int until = lawColumn(rule.law, LAW_UNTIL);
            return lawColumn(rule.law, LAW_MADE) <= known
                && lawColumn(rule.law, LAW_FROM) <= event
                && (until == NONE || event < until);
        }

        /** The number of a literal of the first so many words and persons, or NONE. */
        int literal(int word, boolean so, int a, int b, int wordCount, int personCount) {
            if (word < 0 || word >= wordCount || word >= MOST_WORDS) {
                return NONE;
            }
            int first = places[word] > 0 ? a : 0;
            int second = places[word] > 1 ? b : 0;
            if (places[word] > 0 && (first < 0 || first >= personCount)) {
                return NONE;
            }
            if (places[word] > 1 && (second < 0 || second >= personCount)) {
                return NONE;
            }
            return literalNumber(word, so, first, second);
        }

        /** Literals are numbered in the order of the judgment, each behind its opposite or ahead of it. */
        static int literalNumber(int word, boolean so, int first, int second) {
            return ((word * MOST_PERSONS + first) * MOST_PERSONS + second) * 2 + (so ? 0 : 1);
        }
    }

    /** The names of one sort, in the order in which they were told. */
    private static final class Roll {
        private final long[] names;
        private int size;
        private int kept;

        Roll(int most) {
            names = new long[Math.max(0, most)];
        }

        boolean isFull() {
            return size >= names.length;
        }

        int find(long name) {
            for (int i = 0; i < size; i++) {
                if (names[i] == name) {
                    return i;
                }
            }
            return NONE;
        }

        int add(long name) {
            if (isFull()) {
                return NONE;
            }
            names[size] = name;
            size++;
            return size - 1;
        }

        long nameAt(int i) {
            return i >= 0 && i < size ? names[i] : 0;
        }
    }

    private static final class Rule {
        private int law;
        private int kind;
        private int variables;
        private int size;
        private final Condition[] conditions = new Condition[MOST_CONDITIONS];
        private final Condition head = new Condition();

        Condition newCondition() {
            if (size >= MOST_CONDITIONS) {
                return null;
            }
            if (conditions[size] == null) {
                conditions[size] = new Condition();
            }
            size++;
            return conditions[size - 1];
        }
    }

    /** A condition, or what stands behind the arrow: its kind is NAME for a literal, else its word or sign. */
    private static final class Condition {
        private int kind;
        private int subject;
        private boolean so;
        private int first;
        private int second;
        private int start;
        private int middle;
        private int end;
    }

    private static final class Testimony {
        private final int literal;
        private final int from;
        private final int until;
        private final int weight;
        private final int told;

        Testimony(int literal, int from, int until, int weight, int told) {
            this.literal = literal;
            this.from = from;
            this.until = until;
            this.weight = weight;
            this.told = told;
        }

        boolean counts(int known, int event) {
            return told <= known && from <= event && event < until;
        }
    }

    /** A fraction in lowest terms; once it is broken, all that is reckoned with it is. */
    private static final class Fraction {
        private static final long MOST_PART = 1000000000L;
        private static final int MOST_DIVISIONS = 128;

        private long upper;
        private long lower = 1;
        private boolean broken;

        /** The parts given may have any common divisor, but their lower one is above 0. */
        void become(long newUpper, long newLower) {
            long divisor = newUpper < 0 ? -newUpper : newUpper;
            long rest = newLower;
            for (int i = 0; i < MOST_DIVISIONS && rest != 0; i++) {
                long next = divisor % rest;
                divisor = rest;
                rest = next;
            }
            boolean sound = divisor > 0 && newLower > 0;
            upper = sound ? newUpper / divisor : 0;
            lower = sound ? newLower / divisor : 1;
            broken = !sound || upper > MOST_PART || upper < -MOST_PART || lower > MOST_PART;
        }

        void copy(Fraction other) {
            upper = other.upper;
            lower = other.lower;
            broken = other.broken;
        }

        void negate() {
            upper = -upper;
        }

        void add(Fraction other, int sign) {
            if (broken || other.broken) {
                broken = true;
                return;
            }
            become(upper * other.lower + sign * other.upper * lower, lower * other.lower);
        }

        void multiply(long byUpper, long byLower, boolean byBroken) {
            if (broken || byBroken) {
                broken = true;
                return;
            }
            become(upper * byUpper, lower * byLower);
        }

        int against(Fraction other) {
            return Long.compare(upper * other.lower, other.upper * lower);
        }
    }

    /** Works out formulas, conditions and sums, while the variables have their persons. */
    private static final class Reckoner {
        // Eight brackets leave at most two parts waiting on each level, and one on top.
        private static final int STACK = 24;

        private final Code code;
        private final int[] who = new int[MOST_PERSONS + MOST_VARIABLES];
        private final Fraction[] stack = new Fraction[STACK];
        private final Fraction left = new Fraction();
        private final Fraction amount = new Fraction();
        private final Fraction factor = new Fraction();
        private final Fraction ceiling = new Fraction();
        private final Fraction floor = new Fraction();
        private boolean hasCeiling;
        private boolean hasFloor;

        Reckoner(Code code) {
            this.code = code;
            for (int person = 0; person < MOST_PERSONS; person++) {
                who[person] = person;
            }
            for (int i = 0; i < STACK; i++) {
                stack[i] = new Fraction();
            }
        }

        /** The first variable is the highest digit of the binding. */
        void bind(int binding, int variables, int persons) {
            int rest = binding;
            for (int v = Math.min(variables, MOST_VARIABLES) - 1; v >= 0; v--) {
                who[MOST_PERSONS + v] = persons > 0 ? rest % persons : 0;
                rest = persons > 0 ? rest / persons : 0;
            }
        }

        int personOf(int term) {
            return term >= 0 && term < who.length ? who[term] : 0;
        }

        int literalOf(Condition condition) {
            return Code.literalNumber(condition.subject, condition.so,
                personOf(condition.first), personOf(condition.second));
        }

        boolean holds(Condition condition) {
            switch (condition.kind) {
                case SAME: return personOf(condition.first) == personOf(condition.second);
                case OTHER: return personOf(condition.first) != personOf(condition.second);
                default: break;
            }
            left.copy(work(condition.start, condition.middle));
            Fraction right = work(condition.middle, condition.end);
            if (left.broken || right.broken) {
                return false;
            }
            int order = left.against(right);
            switch (condition.kind) {
                case EQUAL: return order == 0;
                case UNLIKE: return order != 0;
                case '<': return order < 0;
                default: return order <= 0;
            }
        }

        /** The answer stands in a fraction that the next work uses again. */
        private Fraction work(int start, int end) {
            int top = 0;
            for (int i = Math.max(0, start); i < end && i < code.programSize; i++) {
                int operation = code.program[i] >> OPERAND_BITS;
                int operand = code.program[i] & OPERAND_MASK;
                if (operation == PUSH || operation == FETCH) {
                    long value = operation == PUSH ? operand : numberOf(operand);
                    top = Math.min(top + 1, STACK - 1);
                    stack[top].become(value, 1);
                } else if (operation == DIVIDE) {
                    stack[top].multiply(1, operand, false);
                } else if (operation == NEGATE) {
                    stack[top].negate();
                } else {
                    top = Math.max(top - 1, 0);
                    combine(operation, stack[top], stack[top + 1]);
                }
            }
            return stack[top];
        }

        private static void combine(int operation, Fraction one, Fraction another) {
            if (operation == MULTIPLY) {
                one.multiply(another.upper, another.lower, another.broken);
            } else {
                one.add(another, operation == ADD ? 1 : -1);
            }
        }

        private int numberOf(int operand) {
            int place = personOf(operand / NUMBERS) * NUMBERS + operand % NUMBERS;
            return place >= 0 && place < code.numbers.length ? code.numbers[place] : 0;
        }

        void beginSum() {
            amount.become(0, 1);
            factor.become(1, 1);
            hasCeiling = false;
            hasFloor = false;
        }

        void take(Condition head) {
            Fraction e = work(head.start, head.end);
            switch (head.kind) {
                case '+':
                    amount.add(e, 1);
                    break;
                case '*':
                    factor.multiply(e.upper, e.lower, e.broken);
                    break;
                case MOST:
                    limit(ceiling, e, hasCeiling, -1);
                    hasCeiling = true;
                    break;
                default:
                    limit(floor, e, hasFloor, 1);
                    hasFloor = true;
                    break;
            }
        }

        /** A broken limit breaks the sum, whether it would have been reached or not. */
        private void limit(Fraction bound, Fraction e, boolean hasBound, int side) {
            if (e.broken) {
                amount.broken = true;
            } else if (!hasBound || e.against(bound) * side > 0) {
                bound.copy(e);
            }
        }

        Fraction finishSum() {
            amount.multiply(factor.upper, factor.lower, factor.broken);
            if (!amount.broken && hasCeiling && amount.against(ceiling) > 0) {
                amount.copy(ceiling);
            }
            if (!amount.broken && hasFloor && amount.against(floor) < 0) {
                amount.copy(floor);
            }
            return amount;
        }
    }

    /** What was judged, of the persons, words and sums that were told then. */
    private static final class Judgment {
        private static final int FIRST_INSTANCES = 32;

        private final Code code;
        private final Reckoner reckoner;
        private int persons;
        private int words;
        private int sums;
        private final int[] weights = new int[LITERALS];
        private final byte[] marks = new byte[LITERALS];
        private final int[] reasons = new int[LITERALS];
        // Of each literal, the rules and bars of its instances that are applicable, or not discarded: a bit each.
        private final int[] applied = new int[LITERALS];
        private final int[] living = new int[LITERALS];
        private final int[] betters = new int[MOST_RULES];
        private int proving;
        // Only instances whose rule is in force and whose conditions hold, but for literals, are listed.
        private int[] keys = new int[FIRST_INSTANCES];
        private int[] heads = new int[FIRST_INSTANCES];
        private byte[] states = new byte[FIRST_INSTANCES];
        private int size;
        private final int[] tallies = new int[TALLIES];
        private final int[] takes = new int[CELLS];
        private final long[] parts = new long[CELLS * 2];

        Judgment(Code code) {
            this.code = code;
            reckoner = new Reckoner(code);
        }

        void begin() {
            persons = code.persons.size;
            words = code.words.size;
            sums = code.sums.size;
            proving = 0;
            size = 0;
            Arrays.fill(weights, 0);
            Arrays.fill(reasons, BY_NOTHING);
            Arrays.fill(tallies, 0);
            for (int literal = 0; literal < LITERALS; literal++) {
                marks[literal] = (byte) (isThere(literal) ? OPEN : NONE);
            }
        }

        void hear(Testimony testimony, int known, int event) {
            if (testimony != null && testimony.counts(known, event)) {
                weights[testimony.literal] += testimony.weight;
            }
        }

        void findFacts() {
            for (int literal = 0; literal < LITERALS; literal++) {
                if (weights[literal] >= FACT_WEIGHT && weights[literal] > weights[literal ^ 1]) {
                    marks[literal] = PROVED;
                    marks[literal ^ 1] = REFUTED;
                    reasons[literal] = BY_FACT;
                    reasons[literal ^ 1] = BY_FACT;
                }
            }
        }

        void gather(int r, int known, int event) {
            Rule rule = code.ruleAt(r);
            if (rule == null || !code.isInForce(rule, known, event)) {
                return;
            }
            if (rule.kind == KIND_RULE) {
                proving |= 1 << r;
            }
            betters[r] = bettersOf(r);
            int bindings = 1;
            for (int v = 0; v < rule.variables; v++) {
                bindings *= persons;
            }
            for (int binding = 0; binding < bindings && binding < BINDINGS; binding++) {
                reckoner.bind(binding, rule.variables, persons);
                if (plainConditionsHold(rule)) {
                    list(r * BINDINGS + binding, headOf(rule));
                }
            }
        }

        void settleInstances() {
            Arrays.fill(applied, 0);
            Arrays.fill(living, 0);
            for (int i = 0; i < size; i++) {
                if (states[i] == WAITING) {
                    states[i] = (byte) stateOf(keys[i]);
                }
                int literal = heads[i];
                if (literal >= 0 && literal < LITERALS && states[i] != DISCARDED) {
                    int bit = 1 << keys[i] / BINDINGS;
                    living[literal] |= bit;
                    applied[literal] |= states[i] == APPLICABLE ? bit : 0;
                }
            }
        }

        /** Whether any literal was settled that was open. */
        boolean settleLiterals() {
            boolean settled = false;
            for (int literal = 0; literal < LITERALS; literal++) {
                if (marks[literal] == OPEN) {
                    marks[literal] = (byte) markOf(literal);
                    settled = settled || marks[literal] != OPEN;
                }
            }
            return settled;
        }

        void explain() {
            for (int i = 0; i < size; i++) {
                if (states[i] == APPLICABLE) {
                    tallies[TALLY_APPLICABLE]++;
                    giveReason(keys[i], heads[i]);
                }
            }
            for (int literal = 0; literal < LITERALS; literal++) {
                if (marks[literal] != NONE) {
                    tallies[marks[literal]]++;
                }
            }
        }

        void reckon(int cell) {
            reckoner.beginSum();
            takes[cell] = 0;
            for (int i = 0; i < size; i++) {
                if (heads[i] == LITERALS + cell && states[i] == APPLICABLE) {
                    Rule rule = bound(keys[i]);
                    if (rule != null) {
                        reckoner.take(rule.head);
                        takes[cell]++;
                    }
                }
            }
            Fraction total = reckoner.finishSum();
            parts[cell * 2] = total.broken ? 0 : total.upper;
            parts[cell * 2 + 1] = total.broken ? 0 : total.lower;
        }

        /** The number of a literal of what was told when it was judged, or NONE. */
        int find(int word, boolean so, int a, int b) {
            return code.literal(word, so, a, b, words, persons);
        }

        int reason(int literal, int what) {
            int key = reasons[literal];
            if (what == 0) {
                return kindOfReason(literal);
            }
            Rule rule = bound(key);
            if (rule == null || what < 1) {
                return NONE;
            }
            if (what == 1) {
                return key / BINDINGS;
            }
            return what - 2 < rule.variables ? reckoner.personOf(MOST_PERSONS + what - 2) : NONE;
        }

        long amount(int s, int person, int what) {
            if (s < 0 || s >= sums || person < 0 || person >= persons) {
                return NONE;
            }
            int cell = s * MOST_PERSONS + person;
            switch (what) {
                case 0: return parts[cell * 2];
                case 1: return parts[cell * 2 + 1];
                case 2: return takes[cell];
                case 3: return parts[cell * 2 + 1] == 0 ? 1 : 0;
                default: return NONE;
            }
        }

        void writeLiteral(int literal, Bytes written) {
            if (marks[literal] != PROVED) {
                return;
            }
            int word = wordOf(literal);
            if (literal % 2 == 1) {
                written.addText("not ");
            }
            written.addName(code.words.nameAt(word));
            if (code.placesOf(word) > 0) {
                written.add('(');
                written.addName(code.persons.nameAt(firstOf(literal)));
                if (code.placesOf(word) > 1) {
                    written.add(',');
                    written.addName(code.persons.nameAt(secondOf(literal)));
                }
                written.add(')');
            }
            if (reasons[literal] == BY_FACT) {
                written.addText(" fact");
            } else {
                written.addText(" by ");
                written.addName(code.rules.nameAt(reasons[literal] / BINDINGS));
            }
            written.add('\n');
        }

        void writeSum(int cell, Bytes written) {
            if (takes[cell] == 0) {
                return;
            }
            written.addName(code.sums.nameAt(cell / MOST_PERSONS));
            written.add('(');
            written.addName(code.persons.nameAt(cell % MOST_PERSONS));
            written.addText(") ");
            long lower = parts[cell * 2 + 1];
            if (lower == 0) {
                written.addText("broken");
            } else {
                written.addNumber(parts[cell * 2]);
                if (lower != 1) {
                    written.add('/');
                    written.addNumber(lower);
                }
            }
            written.add('\n');
        }

        private static int wordOf(int literal) {
            return literal / (MOST_PERSONS * MOST_PERSONS * 2);
        }

        private static int firstOf(int literal) {
            return literal / (MOST_PERSONS * 2) % MOST_PERSONS;
        }

        private static int secondOf(int literal) {
            return literal / 2 % MOST_PERSONS;
        }

        private boolean isThere(int literal) {
            int places = code.placesOf(wordOf(literal));
            return wordOf(literal) < words
                && firstOf(literal) < (places > 0 ? persons : 1)
                && secondOf(literal) < (places > 1 ? persons : 1);
        }

        private int bettersOf(int r) {
            int found = 0;
            for (int s = 0; s < code.rules.size; s++) {
                found |= code.isAbove(s, r) ? 1 << s : 0;
            }
            return found;
        }

        private boolean plainConditionsHold(Rule rule) {
            for (int i = 0; i < rule.size; i++) {
                Condition condition = rule.conditions[i];
                if (condition != null && condition.kind != NAME && !reckoner.holds(condition)) {
                    return false;
                }
            }
            return true;
        }

        /** A literal's number, or that of a sum and person behind all literals. */
        private int headOf(Rule rule) {
            if (rule.kind == KIND_TAKE) {
                return LITERALS + rule.head.subject * MOST_PERSONS + reckoner.personOf(rule.head.first);
            }
            return reckoner.literalOf(rule.head);
        }

        private void list(int key, int head) {
            if (size >= keys.length) {
                keys = Arrays.copyOf(keys, size * 2);
                heads = Arrays.copyOf(heads, size * 2);
                states = Arrays.copyOf(states, size * 2);
            }
            keys[size] = key;
            heads[size] = head;
            states[size] = WAITING;
            size++;
        }

        /** The rule of an instance, its variables bound; null if the key is that of none. */
        private Rule bound(int key) {
            Rule rule = key < 0 ? null : code.ruleAt(key / BINDINGS);
            if (rule != null) {
                reckoner.bind(key % BINDINGS, rule.variables, persons);
            }
            return rule;
        }

        private int stateOf(int key) {
            Rule rule = bound(key);
            if (rule == null) {
                return DISCARDED;
            }
            int state = APPLICABLE;
            for (int i = 0; i < rule.size; i++) {
                Condition condition = rule.conditions[i];
                boolean isLiteral = condition != null && condition.kind == NAME;
                int mark = isLiteral ? marks[reckoner.literalOf(condition)] : PROVED;
                if (mark == REFUTED) {
                    return DISCARDED;
                }
                state = mark == PROVED ? state : WAITING;
            }
            return state;
        }

        private int markOf(int literal) {
            if (isProved(literal)) {
                return PROVED;
            }
            return isRefuted(literal) ? REFUTED : OPEN;
        }

        private boolean isProved(int literal) {
            int helpers = applied[literal] & proving;
            int attackers = living[literal ^ 1];
            if (helpers == 0) {
                return false;
            }
            for (int s = 0; s < MOST_RULES && attackers >> s != 0; s++) {
                if ((attackers >> s & 1) == 1 && (betters[s] & helpers) == 0) {
                    return false;
                }
            }
            return true;
        }

        private boolean isRefuted(int literal) {
            if ((living[literal] & proving) == 0) {
                return true;
            }
            int attackers = applied[literal ^ 1];
            for (int s = 0; s < MOST_RULES && attackers >> s != 0; s++) {
                if ((attackers >> s & 1) == 1 && prevails(s, literal)) {
                    return true;
                }
            }
            return false;
        }

        /** Whether no rule that may still speak for the literal is above the one against it. */
        private boolean prevails(int against, int literal) {
            return (betters[against] & living[literal] & proving) == 0;
        }

        /** Instances come in their order, so the first to give a reason is the reason. */
        private void giveReason(int key, int head) {
            if (head < 0 || head >= LITERALS) {
                return;
            }
            int r = key / BINDINGS;
            int opposite = head ^ 1;
            boolean isRule = (proving >> r & 1) == 1;
            if (isRule && marks[head] == PROVED && reasons[head] == BY_NOTHING) {
                reasons[head] = key;
            }
            if (marks[opposite] == REFUTED && reasons[opposite] == BY_NOTHING && prevails(r, opposite)) {
                reasons[opposite] = key;
            }
        }

        private int kindOfReason(int literal) {
            if (marks[literal] == OPEN) {
                return 3;
            }
            if (reasons[literal] == BY_FACT) {
                return 0;
            }
            return reasons[literal] == BY_NOTHING ? 2 : 1;
        }
    }
}
