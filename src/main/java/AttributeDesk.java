/**
 * Attribute grammars as Knuth told them: grammars and trees are read from a tape of bytes, grammars
 * are tested for ways round, and the attributes of a tree are worked out on demand.
 */
public final class AttributeDesk {
    public static final int NONE = -1;

    private static final int NO_GRAMMAR = -2;
    private static final int TOO_LARGE = -2;

    private static final int TAPE_LIMIT = 3000;
    private static final int SYMBOL_LIMIT = 12;
    private static final int RULE_LIMIT = 30;
    private static final int ATTRIBUTE_LIMIT = 6;
    private static final int CHILD_LIMIT = 3;
    private static final int NUMBER_LIMIT = 2147483647;
    private static final int TOKEN_LIMIT = 40;
    private static final int OPEN_LIMIT = 20;
    private static final int NODE_LIMIT = 200;
    private static final int DEPTH_LIMIT = 40;
    private static final int CHOICE_LIMIT = 2000;

    /** The HEAD and the CHILDREN. */
    private static final int PLACES = 1 + CHILD_LIMIT;
    /** A spot is an attribute at a place of a RULE: place * ATTRIBUTE_LIMIT + attribute. */
    private static final int SPOTS = PLACES * ATTRIBUTE_LIMIT;
    /** Six attributes make at most 3 * 3 pairs of an inherited and a synthesized one. */
    private static final int GRAPH_LIMIT = 512;
    private static final int ITEM_LIMIT = NODE_LIMIT * ATTRIBUTE_LIMIT;

    // The kinds of TOKENS; a sign's kind is its own code, which is above all of these.
    private static final int WRONG = -1;
    private static final int TEXT_END = 0;
    private static final int NAME = 1;
    private static final int NUMBER = 2;
    private static final int SYM = 3;
    private static final int INH = 4;
    private static final int SYN = 5;
    private static final int RULE = 6;
    private static final int RULE_END = 7;
    private static final int OWN = 8;
    private static final int IF = 9;
    private static final int THEN = 10;
    private static final int ELSE = 11;

    /** Stands for the - of a U, which must not be taken for the - of an S. */
    private static final int NEGATE = '~';
    /** Stands for an OCC in what an E is turned into; there an ELSE stands behind the three Es of its if. */
    private static final int OCCURRENCE = '.';

    private final byte[] tape = new byte[TAPE_LIMIT];
    private int tapeSize = 0;
    private Grammar known = new Grammar();
    private Grammar spareGrammar = new Grammar();
    private Tree grown = new Tree();
    private Tree spareTree = new Tree();
    private final Tokens tokens = new Tokens(tape);
    private final GrammarReader grammarReader = new GrammarReader(tokens, spareGrammar);
    private final TreeReader treeReader = new TreeReader(tokens, known, spareTree);
    private final Ways ways = new Ways(known);
    private final Worker worker = new Worker(known, grown);
    private int latestFault = NONE;
    private int latestPlace = NONE;

    public AttributeDesk() {
    }

    public int feed(int a, int b, int c, int d, int e) {
        if (tapeSize > TAPE_LIMIT - 20) {
            return NONE;
        }
        putWord(a);
        putWord(b);
        putWord(c);
        putWord(d);
        putWord(e);
        return tapeSize;
    }

    public int end(int n) {
        if (n < 0 || n > tapeSize) {
            return NONE;
        }
        tapeSize = n;
        return n;
    }

    public int grammar() {
        int found = grammarReader.read(spareGrammar, tapeSize);
        tapeSize = 0;
        keepFault(found);
        if (found != 0) {
            return NONE;
        }
        Grammar read = spareGrammar;
        spareGrammar = known;
        known = read;
        grown.size = 0;
        worker.begin(known, grown);
        ways.study(known);
        return known.ruleCount;
    }

    public int tree() {
        if (known.ruleCount == 0) {
            return NO_GRAMMAR;
        }
        int found = treeReader.read(known, spareTree, tapeSize);
        tapeSize = 0;
        keepFault(found);
        if (found != 0) {
            return NONE;
        }
        Tree read = spareTree;
        spareTree = grown;
        grown = read;
        worker.begin(known, grown);
        return grown.size;
    }

    public int fault(int what) {
        if (what == 0) {
            return latestFault;
        }
        return what == 1 ? latestPlace : NONE;
    }

    public int symbol(int s, int what) {
        if (s < 0 || s >= known.symbolCount) {
            return NONE;
        }
        switch (what) {
            case 0:
                return known.attributeCounts[s];
            case 1:
                return known.inheritedCounts[s];
            case 2:
                return ways.tooLarge ? TOO_LARGE : ways.graphCounts[s];
            case 3:
                return ways.plain[s];
            default:
                return inheritance(s, what);
        }
    }

    public int graph(int s, int i) {
        if (s < 0 || s >= known.symbolCount || ways.tooLarge || i < 0 || i >= ways.graphCounts[s]) {
            return NONE;
        }
        return ways.graphs[s * GRAPH_LIMIT + i];
    }

    public int rule(int r, int what) {
        if (r < 0 || r >= known.ruleCount) {
            return NONE;
        }
        switch (what) {
            case 0:
                return known.symbolAt(r, 0);
            case 1:
                return known.childCounts[r];
            case 2:
                return known.equationCounts[r];
            case 3:
                return ways.comes[r] ? 1 : 0;
            case 4:
                return ways.plainRound[r] ? 1 : 0;
            case 5:
                return ways.tooLarge ? TOO_LARGE : ways.exactRound[r] ? 1 : 0;
            default:
                return what > 10 && what <= 10 + known.childCounts[r] ? known.symbolAt(r, what - 10) : NONE;
        }
    }

    public int test(int what) {
        if (known.ruleCount == 0 || what < 0 || what > 1) {
            return NONE;
        }
        if (what == 1) {
            return ways.plainGoesRound() ? 0 : 1;
        }
        if (ways.tooLarge) {
            return TOO_LARGE;
        }
        return ways.someTreeGoesRound() ? 0 : 1;
    }

    public int node(int n, int what) {
        if (!isNode(n)) {
            return NONE;
        }
        switch (what) {
            case 0:
                return grown.rules[n];
            case 1:
                return grown.above[n];
            case 2:
                return grown.places[n];
            case 3:
                return grown.owns[n];
            case 4:
                return symbolOf(n);
            default:
                return NONE;
        }
    }

    public boolean own(int n, int v) {
        if (!isNode(n)) {
            return false;
        }
        // The same number again changes no OWN, so what was worked out stays.
        if (grown.owns[n] != v) {
            grown.owns[n] = v;
            worker.forget();
        }
        return true;
    }

    public int demand(int n, int a) {
        return isItem(n, a) ? worker.workOut(n * ATTRIBUTE_LIMIT + a) : NONE;
    }

    public int value(int n, int a, int what) {
        if (!isItem(n, a) || what < 0 || what > 1) {
            return NONE;
        }
        int item = n * ATTRIBUTE_LIMIT + a;
        return what == 0 ? worker.outcome(item) : worker.numbers[item];
    }

    public int order(int i) {
        return i < 0 || i >= worker.orderSize ? NONE : worker.order[i];
    }

    public int about(int what) {
        switch (what) {
            case 0:
                return tapeSize;
            case 1:
                return known.symbolCount;
            case 2:
                return known.ruleCount;
            case 3:
                return grown.size;
            case 4:
                return worker.orderSize;
            default:
                return NONE;
        }
    }

    private void putWord(int word) {
        for (int shift = 24; shift >= 0 && tapeSize < TAPE_LIMIT; shift -= 8) {
            tape[tapeSize] = (byte) (word >> shift);
            tapeSize++;
        }
    }

    private void keepFault(int found) {
        latestFault = found;
        latestPlace = found == 0 ? NONE : tokens.at;
    }

    private int inheritance(int s, int what) {
        if (what < 100 || what >= 100 + known.attributeCounts[s]) {
            return NONE;
        }
        return known.isInherited(s, what - 100) ? 1 : 0;
    }

    private boolean isNode(int n) {
        return n >= 0 && n < grown.size;
    }

    private boolean isItem(int n, int a) {
        return isNode(n) && a >= 0 && a < known.attributeCounts[symbolOf(n)];
    }

    private int symbolOf(int n) {
        return known.symbolAt(grown.rules[n], 0);
    }

    /** Takes a text apart, one TOKEN at a time. */
    private static final class Tokens {
        private final byte[] text;
        private int size = 0;
        private int behind = 0;
        int kind = WRONG;
        int at = 0;
        long name = 0;
        long number = 0;

        Tokens(byte[] tape) {
            text = tape;
        }

        void begin(int length) {
            size = Math.min(length, text.length);
            behind = 0;
        }

        void next() {
            at = skipBlanks(behind);
            if (at >= size) {
                kind = TEXT_END;
                behind = size;
                return;
            }
            int sign = text[at];
            if (isLetter(sign)) {
                takeLetters();
            } else if (isDigit(sign)) {
                takeDigits();
            } else {
                kind = isSign(sign) ? sign : WRONG;
                behind = at + 1;
            }
        }

        /** Whether a . comes next: it makes a NUMBER of an E the beginning of an OCC. */
        boolean hasDotBehind() {
            int next = skipBlanks(behind);
            return next < size && text[next] == '.';
        }

        private int skipBlanks(int from) {
            int i = from;
            for (; i < size && (text[i] == 32 || text[i] == 10); i++) {
            }
            return i;
        }

        private void takeLetters() {
            long letters = 0;
            int i = at;
            for (; i < size && isLetter(text[i]); i++) {
                letters = letters << 8 | text[i];
            }
            behind = i;
            name = letters;
            int length = i - at;
            kind = length > 8 ? WRONG : length > 4 ? NAME : keywordOrName((int) letters);
        }

        private void takeDigits() {
            long value = 0;
            int i = at;
            for (; i < size && isDigit(text[i]); i++) {
                // What is too large already stays so, whatever digits come behind.
                if (value <= NUMBER_LIMIT) {
                    value = value * 10 + (text[i] - '0');
                }
            }
            behind = i;
            number = value;
            kind = NUMBER;
        }

        private static int keywordOrName(int letters) {
            switch (letters) {
                case 's' << 16 | 'y' << 8 | 'm':
                    return SYM;
                case 'i' << 16 | 'n' << 8 | 'h':
                    return INH;
                case 's' << 16 | 'y' << 8 | 'n':
                    return SYN;
                case 'r' << 24 | 'u' << 16 | 'l' << 8 | 'e':
                    return RULE;
                case 'e' << 16 | 'n' << 8 | 'd':
                    return RULE_END;
                case 'o' << 16 | 'w' << 8 | 'n':
                    return OWN;
                case 'i' << 8 | 'f':
                    return IF;
                case 't' << 24 | 'h' << 16 | 'e' << 8 | 'n':
                    return THEN;
                case 'e' << 24 | 'l' << 16 | 's' << 8 | 'e':
                    return ELSE;
                default:
                    return NAME;
            }
        }

        private static boolean isLetter(int sign) {
            return sign >= 'a' && sign <= 'z' || sign >= 'A' && sign <= 'Z';
        }

        private static boolean isDigit(int sign) {
            return sign >= '0' && sign <= '9';
        }

        private static boolean isSign(int sign) {
            switch (sign) {
                case ';':
                case ':':
                case '=':
                case '.':
                case '(':
                case ')':
                case '<':
                case '+':
                case '-':
                case '*':
                case '/':
                case '%':
                    return true;
                default:
                    return false;
            }
        }
    }

    /** A grammar; one without RULES stands for none. */
    private static final class Grammar {
        int symbolCount = 0;
        final long[] symbolNames = new long[SYMBOL_LIMIT];
        final int[] attributeCounts = new int[SYMBOL_LIMIT];
        final int[] inheritedCounts = new int[SYMBOL_LIMIT];
        final long[] attributeNames = new long[SYMBOL_LIMIT * ATTRIBUTE_LIMIT];
        final boolean[] inherited = new boolean[SYMBOL_LIMIT * ATTRIBUTE_LIMIT];
        /** By order among the inherited, or among the synthesized, ones of the symbol. */
        final int[] ranks = new int[SYMBOL_LIMIT * ATTRIBUTE_LIMIT];
        int ruleCount = 0;
        final long[] ruleNames = new long[RULE_LIMIT];
        final int[] ruleSymbols = new int[RULE_LIMIT * PLACES];
        final int[] childCounts = new int[RULE_LIMIT];
        final int[] equationCounts = new int[RULE_LIMIT];
        /** Of each spot of each RULE where its EQUATION begins, NONE without one. */
        final int[] codeStarts = new int[RULE_LIMIT * SPOTS];
        final int[] codeEnds = new int[RULE_LIMIT * SPOTS];
        /** Of each spot of each RULE the spots that its EQUATION names, a bit for each. */
        final int[] hangs = new int[RULE_LIMIT * SPOTS];
        /** The Es, each operation behind what it works on. */
        final int[] operations = new int[TAPE_LIMIT];
        final int[] operands = new int[TAPE_LIMIT];
        int codeSize = 0;

        void clear() {
            symbolCount = 0;
            ruleCount = 0;
            codeSize = 0;
        }

        int symbolAt(int rule, int place) {
            return ruleSymbols[rule * PLACES + place];
        }

        boolean isInherited(int symbol, int attribute) {
            return inherited[symbol * ATTRIBUTE_LIMIT + attribute];
        }

        /** Whether an EQUATION may tell it: of the HEAD a synthesized one, of a CHILD an inherited one. */
        boolean mayTell(int place, int symbol, int attribute) {
            return inherited[symbol * ATTRIBUTE_LIMIT + attribute] == (place > 0);
        }

        /** The bit of an IO-GRAPH that tells whether b hangs on a; 0 unless these are inherited and synthesized. */
        int graphBit(int symbol, int a, int b) {
            int first = symbol * ATTRIBUTE_LIMIT;
            if (!inherited[first + a] || inherited[first + b]) {
                return 0;
            }
            int synthesizedCount = attributeCounts[symbol] - inheritedCounts[symbol];
            return 1 << (ranks[first + a] * synthesizedCount + ranks[first + b]);
        }

        int findSymbol(long name) {
            for (int s = 0; s < symbolCount; s++) {
                if (symbolNames[s] == name) {
                    return s;
                }
            }
            return NONE;
        }

        int findRule(long name) {
            for (int r = 0; r < ruleCount; r++) {
                if (ruleNames[r] == name) {
                    return r;
                }
            }
            return NONE;
        }

        int findAttribute(int symbol, long name) {
            for (int a = 0; a < attributeCounts[symbol]; a++) {
                if (attributeNames[symbol * ATTRIBUTE_LIMIT + a] == name) {
                    return a;
                }
            }
            return NONE;
        }

        void addSymbol(long name) {
            if (symbolCount < SYMBOL_LIMIT) {
                symbolNames[symbolCount] = name;
                attributeCounts[symbolCount] = 0;
                inheritedCounts[symbolCount] = 0;
                symbolCount++;
            }
        }

        void addAttribute(int symbol, long name, boolean isInherited) {
            int count = attributeCounts[symbol];
            if (count < ATTRIBUTE_LIMIT) {
                int place = symbol * ATTRIBUTE_LIMIT + count;
                attributeNames[place] = name;
                inherited[place] = isInherited;
                ranks[place] = isInherited ? inheritedCounts[symbol] : count - inheritedCounts[symbol];
                attributeCounts[symbol] = count + 1;
                inheritedCounts[symbol] += isInherited ? 1 : 0;
            }
        }

        void addRule(long name) {
            if (ruleCount < RULE_LIMIT) {
                ruleNames[ruleCount] = name;
                childCounts[ruleCount] = 0;
                equationCounts[ruleCount] = 0;
                for (int i = ruleCount * SPOTS; i < (ruleCount + 1) * SPOTS; i++) {
                    codeStarts[i] = NONE;
                    codeEnds[i] = NONE;
                    hangs[i] = 0;
                }
                ruleCount++;
            }
        }

        void addCode(int operation, int operand) {
            if (codeSize < TAPE_LIMIT) {
                operations[codeSize] = operation;
                operands[codeSize] = operand;
                codeSize++;
            }
        }
    }

    /** Reads a grammar, a step for each TOKEN; a step's answer is the FAULT at the TOKEN, 0 without. */
    private static final class GrammarReader {
        // What may stand next.
        private static final int FIRST = 0;
        private static final int SYMBOL_NAME = 1;
        private static final int SYMBOL_BODY = 2;
        private static final int ATTRIBUTE_NAME = 3;
        private static final int BEHIND_SYMBOL = 4;
        private static final int RULE_NAME = 5;
        private static final int RULE_EQUALS = 6;
        private static final int RULE_HEAD = 7;
        private static final int RULE_CHILD = 8;
        private static final int RULE_BODY = 9;
        private static final int BEHIND_RULE = 10;
        private static final int TARGET_DOT = 11;
        private static final int TARGET_NAME = 12;
        private static final int TARGET_EQUALS = 13;
        private static final int EXPRESSION = 14;
        private static final int READY = 15;

        private final Tokens tokens;
        private final ExpressionReader expression;
        private Grammar grammar;
        private int state = FIRST;
        private boolean readsInherited = false;
        private int targetPlace = 0;
        private int targetSpot = 0;

        GrammarReader(Tokens source, Grammar into) {
            tokens = source;
            grammar = into;
            expression = new ExpressionReader(source, into);
        }

        int read(Grammar into, int length) {
            grammar = into;
            grammar.clear();
            tokens.begin(length);
            state = FIRST;
            int fault = 0;
            // Each TOKEN but the end has a byte of its own.
            for (int i = 0; i <= length && fault == 0 && state != READY; i++) {
                tokens.next();
                fault = state == EXPRESSION ? expression.step() : step();
                if (state == EXPRESSION && expression.isComplete) {
                    state = RULE_BODY;
                }
            }
            return fault;
        }

        private int step() {
            if (state <= BEHIND_SYMBOL) {
                return symbolStep();
            }
            return state <= BEHIND_RULE ? ruleStep() : targetStep();
        }

        private int go(int next) {
            state = next;
            return 0;
        }

        private int goIf(int kind, int next) {
            return tokens.kind == kind ? go(next) : 1;
        }

        private int symbolStep() {
            switch (state) {
                case SYMBOL_NAME:
                    return symbolName();
                case SYMBOL_BODY:
                    return symbolBody();
                case ATTRIBUTE_NAME:
                    return attributeName();
                case BEHIND_SYMBOL:
                    return tokens.kind == RULE ? go(RULE_NAME) : goIf(SYM, SYMBOL_NAME);
                default:
                    return goIf(SYM, SYMBOL_NAME);
            }
        }

        private int symbolName() {
            if (tokens.kind != NAME) {
                return 1;
            }
            if (grammar.findSymbol(tokens.name) != NONE) {
                return 2;
            }
            if (grammar.symbolCount >= SYMBOL_LIMIT) {
                return 4;
            }
            grammar.addSymbol(tokens.name);
            return go(SYMBOL_BODY);
        }

        private int symbolBody() {
            if (tokens.kind == ';') {
                return go(BEHIND_SYMBOL);
            }
            if (tokens.kind != INH && tokens.kind != SYN) {
                return 1;
            }
            readsInherited = tokens.kind == INH;
            return go(ATTRIBUTE_NAME);
        }

        private int attributeName() {
            int symbol = grammar.symbolCount - 1;
            if (tokens.kind != NAME || symbol < 0) {
                return 1;
            }
            if (grammar.findAttribute(symbol, tokens.name) != NONE) {
                return 2;
            }
            if (grammar.attributeCounts[symbol] >= ATTRIBUTE_LIMIT) {
                return 4;
            }
            grammar.addAttribute(symbol, tokens.name, readsInherited);
            return go(SYMBOL_BODY);
        }

        private int ruleStep() {
            if (state == RULE_NAME) {
                return ruleName();
            }
            int rule = grammar.ruleCount - 1;
            if (rule < 0) {
                return 1;
            }
            switch (state) {
                case RULE_EQUALS:
                    return goIf('=', RULE_HEAD);
                case RULE_HEAD:
                    return ruleHead(rule);
                case RULE_CHILD:
                    return ruleChild(rule);
                case RULE_BODY:
                    return ruleBody(rule);
                default:
                    return behindRule();
            }
        }

        private int ruleName() {
            if (tokens.kind != NAME) {
                return 1;
            }
            if (grammar.findRule(tokens.name) != NONE) {
                return 2;
            }
            if (grammar.ruleCount >= RULE_LIMIT) {
                return 4;
            }
            grammar.addRule(tokens.name);
            return go(RULE_EQUALS);
        }

        private int ruleHead(int rule) {
            if (tokens.kind != NAME) {
                return 1;
            }
            int symbol = grammar.findSymbol(tokens.name);
            if (symbol == NONE) {
                return 3;
            }
            grammar.ruleSymbols[rule * PLACES] = symbol;
            return go(RULE_CHILD);
        }

        private int ruleChild(int rule) {
            if (tokens.kind == ':') {
                return go(RULE_BODY);
            }
            if (tokens.kind != NAME) {
                return 1;
            }
            int symbol = grammar.findSymbol(tokens.name);
            if (symbol == NONE) {
                return 3;
            }
            if (grammar.childCounts[rule] >= CHILD_LIMIT) {
                return 4;
            }
            grammar.childCounts[rule]++;
            grammar.ruleSymbols[rule * PLACES + grammar.childCounts[rule]] = symbol;
            return 0;
        }

        private int ruleBody(int rule) {
            if (tokens.kind == RULE_END) {
                return lacksEquation(rule) ? 8 : go(BEHIND_RULE);
            }
            if (tokens.kind != NUMBER) {
                return 1;
            }
            if (tokens.number > grammar.childCounts[rule]) {
                return 3;
            }
            targetPlace = (int) tokens.number;
            return go(TARGET_DOT);
        }

        private int behindRule() {
            if (tokens.kind == RULE) {
                return go(RULE_NAME);
            }
            if (tokens.kind != TEXT_END) {
                return 1;
            }
            return grammar.inheritedCounts[0] > 0 ? 9 : go(READY);
        }

        private boolean lacksEquation(int rule) {
            for (int place = 0; place <= grammar.childCounts[rule]; place++) {
                int symbol = grammar.symbolAt(rule, place);
                for (int a = 0; a < grammar.attributeCounts[symbol]; a++) {
                    int spot = rule * SPOTS + place * ATTRIBUTE_LIMIT + a;
                    if (grammar.mayTell(place, symbol, a) && grammar.codeStarts[spot] == NONE) {
                        return true;
                    }
                }
            }
            return false;
        }

        private int targetStep() {
            int rule = grammar.ruleCount - 1;
            if (rule < 0) {
                return 1;
            }
            switch (state) {
                case TARGET_DOT:
                    return goIf('.', TARGET_NAME);
                case TARGET_NAME:
                    return targetName(rule);
                default:
                    expression.begin(grammar, rule, targetSpot);
                    return goIf('=', EXPRESSION);
            }
        }

        private int targetName(int rule) {
            if (tokens.kind != NAME) {
                return 1;
            }
            int symbol = grammar.symbolAt(rule, targetPlace);
            int attribute = grammar.findAttribute(symbol, tokens.name);
            if (attribute == NONE) {
                return 3;
            }
            if (!grammar.mayTell(targetPlace, symbol, attribute)) {
                return 6;
            }
            targetSpot = rule * SPOTS + targetPlace * ATTRIBUTE_LIMIT + attribute;
            return grammar.codeStarts[targetSpot] != NONE ? 7 : go(TARGET_EQUALS);
        }
    }

    /** Reads the E of an EQUATION, and the ; behind it, a step for each TOKEN. */
    private static final class ExpressionReader {
        // What may stand next.
        private static final int OPERAND = 0;
        private static final int OCC_DOT = 1;
        private static final int OCC_NAME = 2;
        private static final int OPERATOR = 3;

        // How tightly what waits binds to what stands behind it.
        private static final int WAITS_ON = 0;
        private static final int ENDS_WITH_E = 1;
        private static final int COMPARES = 2;
        private static final int ADDS = 3;
        private static final int MULTIPLIES = 4;
        private static final int NEGATES = 5;

        private final Tokens tokens;
        private Grammar grammar;
        private int rule = 0;
        private int target = 0;
        private int state = OPERAND;
        private int tokenCount = 0;
        private int occPlace = 0;
        /** What waits for its end; each has a TOKEN of its own. */
        private final int[] waiting = new int[TOKEN_LIMIT];
        private int waitingCount = 0;
        /** How many of the waiting are ( or if or the - of a U. */
        private int openCount = 0;
        boolean isComplete = false;

        ExpressionReader(Tokens source, Grammar into) {
            tokens = source;
            grammar = into;
        }

        void begin(Grammar into, int inRule, int spot) {
            grammar = into;
            rule = inRule;
            target = spot;
            state = OPERAND;
            tokenCount = 0;
            waitingCount = 0;
            openCount = 0;
            isComplete = false;
            grammar.codeStarts[target] = grammar.codeSize;
        }

        int step() {
            switch (state) {
                case OPERAND:
                    return operand();
                case OCC_DOT:
                    return occDot();
                case OCC_NAME:
                    return occName();
                default:
                    return operator();
            }
        }

        private boolean isOneTooMany() {
            tokenCount++;
            return tokenCount > TOKEN_LIMIT;
        }

        private int operand() {
            switch (tokens.kind) {
                case NUMBER:
                    return tokens.hasDotBehind() ? occNumber() : emitOperand(NUMBER, tokens.number);
                case OWN:
                    return emitOperand(OWN, 0);
                case '(':
                    return open('(');
                case '-':
                    return open(NEGATE);
                case IF:
                    // An if is no part of an operation, so none may wait for it.
                    return topBinds() <= ENDS_WITH_E ? open(IF) : 1;
                default:
                    return 1;
            }
        }

        private int occNumber() {
            if (tokens.number > grammar.childCounts[rule]) {
                return 3;
            }
            if (isOneTooMany()) {
                return 4;
            }
            occPlace = (int) tokens.number;
            state = OCC_DOT;
            return 0;
        }

        private int occDot() {
            if (tokens.kind != '.') {
                return 1;
            }
            state = OCC_NAME;
            return isOneTooMany() ? 4 : 0;
        }

        private int occName() {
            if (tokens.kind != NAME) {
                return 1;
            }
            int attribute = grammar.findAttribute(grammar.symbolAt(rule, occPlace), tokens.name);
            if (attribute == NONE) {
                return 3;
            }
            int spot = occPlace * ATTRIBUTE_LIMIT + attribute;
            grammar.hangs[target] |= 1 << spot;
            return emitOperand(OCCURRENCE, spot);
        }

        private int emitOperand(int operation, long operand) {
            if (isOneTooMany()) {
                return 4;
            }
            if (operand > NUMBER_LIMIT) {
                return 5;
            }
            grammar.addCode(operation, (int) operand);
            // With its B each - of a U ends too: it isn't open around what comes behind.
            settle(NEGATES);
            state = OPERATOR;
            return 0;
        }

        private int open(int what) {
            if (isOneTooMany() || openCount >= OPEN_LIMIT) {
                return 4;
            }
            openCount++;
            return await(what);
        }

        private int await(int what) {
            if (waitingCount >= TOKEN_LIMIT) {
                return 4;
            }
            waiting[waitingCount] = what;
            waitingCount++;
            state = OPERAND;
            return 0;
        }

        private int operator() {
            switch (tokens.kind) {
                case '*':
                case '/':
                case '%':
                    return binary(MULTIPLIES);
                case '+':
                case '-':
                    return binary(ADDS);
                case '<':
                case '=':
                    return compare();
                case ')':
                    return closeParenthesis();
                case THEN:
                    return turn(IF, THEN);
                case ELSE:
                    return turn(THEN, ELSE);
                case ';':
                    return finish();
                default:
                    return 1;
            }
        }

        private int binary(int binds) {
            settle(binds);
            return isOneTooMany() ? 4 : await(tokens.kind);
        }

        private int compare() {
            settle(ADDS);
            // A C has one comparison at most.
            if (topBinds() == COMPARES) {
                return 1;
            }
            return isOneTooMany() ? 4 : await(tokens.kind);
        }

        private int closeParenthesis() {
            settle(ENDS_WITH_E);
            if (top() != '(') {
                return 1;
            }
            waitingCount--;
            openCount--;
            settle(NEGATES);
            state = OPERATOR;
            return isOneTooMany() ? 4 : 0;
        }

        /** An if that waits for its then, or for its else, waits for what comes behind. */
        private int turn(int from, int to) {
            settle(ENDS_WITH_E);
            if (top() != from) {
                return 1;
            }
            waitingCount--;
            return isOneTooMany() ? 4 : await(to);
        }

        private int finish() {
            settle(ENDS_WITH_E);
            if (waitingCount > 0) {
                return 1;
            }
            grammar.codeEnds[target] = grammar.codeSize;
            grammar.equationCounts[rule]++;
            isComplete = true;
            return 0;
        }

        /** Ends all, from the last that waits, that binds at least so tightly. */
        private void settle(int binds) {
            for (int i = waitingCount; i > 0 && bindingOf(waiting[i - 1]) >= binds; i--) {
                int what = waiting[i - 1];
                grammar.addCode(what, 0);
                waitingCount = i - 1;
                if (what == NEGATE || what == ELSE) {
                    openCount--;
                }
            }
        }

        private int top() {
            return waitingCount > 0 ? waiting[waitingCount - 1] : NONE;
        }

        private int topBinds() {
            return bindingOf(top());
        }

        private static int bindingOf(int what) {
            switch (what) {
                case NEGATE:
                    return NEGATES;
                case '*':
                case '/':
                case '%':
                    return MULTIPLIES;
                case '+':
                case '-':
                    return ADDS;
                case '<':
                case '=':
                    return COMPARES;
                case ELSE:
                    return ENDS_WITH_E;
                default:
                    return WAITS_ON;
            }
        }
    }

    /** A TREE; one without NODES stands for none. */
    private static final class Tree {
        int size = 0;
        final int[] rules = new int[NODE_LIMIT];
        final int[] above = new int[NODE_LIMIT];
        final int[] places = new int[NODE_LIMIT];
        final int[] owns = new int[NODE_LIMIT];
        final int[] children = new int[NODE_LIMIT * CHILD_LIMIT];

        /** The NODE at a place of a NODE's RULE: itself, or a CHILD. */
        int nodeAt(int node, int place) {
            return place == 0 ? node : children[node * CHILD_LIMIT + place - 1];
        }
    }

    /** Reads a TREE, a step for each TOKEN; a step's answer is the FAULT at the TOKEN, 0 without. */
    private static final class TreeReader {
        // What may stand next.
        private static final int FIRST = 0;
        private static final int RULE_NAME = 1;
        private static final int BEHIND_NAME = 2;
        private static final int CHILDREN = 3;
        private static final int CLOSED = 4;
        private static final int READY = 5;

        private final Tokens tokens;
        private Grammar grammar;
        private Tree tree;
        private int state = FIRST;
        private int here = NONE;
        private int depth = 0;
        /** How many CHILDREN of each NODE have come. */
        private final int[] filled = new int[NODE_LIMIT];

        TreeReader(Tokens source, Grammar by, Tree into) {
            tokens = source;
            grammar = by;
            tree = into;
        }

        int read(Grammar by, Tree into, int length) {
            grammar = by;
            tree = into;
            tree.size = 0;
            tokens.begin(length);
            state = FIRST;
            here = NONE;
            depth = 0;
            int fault = 0;
            // Each TOKEN but the end has a byte of its own.
            for (int i = 0; i <= length && fault == 0 && state != READY; i++) {
                tokens.next();
                fault = step();
            }
            return fault;
        }

        private int step() {
            switch (state) {
                case FIRST:
                    return tokens.kind == '(' ? openNode() : 1;
                case RULE_NAME:
                    return ruleName();
                case BEHIND_NAME:
                    return tokens.kind == NUMBER ? ownNumber() : childOrEnd();
                case CHILDREN:
                    return childOrEnd();
                default:
                    return go(tokens.kind == TEXT_END, READY);
            }
        }

        private int go(boolean stands, int next) {
            if (!stands) {
                return 1;
            }
            state = next;
            return 0;
        }

        private int openNode() {
            if (tree.size >= NODE_LIMIT || depth >= DEPTH_LIMIT) {
                return 4;
            }
            int node = tree.size;
            tree.size++;
            depth++;
            tree.above[node] = here;
            tree.places[node] = 0;
            tree.owns[node] = 0;
            filled[node] = 0;
            if (here != NONE) {
                tree.children[here * CHILD_LIMIT + filled[here]] = node;
                filled[here]++;
                tree.places[node] = filled[here];
            }
            here = node;
            return go(true, RULE_NAME);
        }

        private int ruleName() {
            if (tokens.kind != NAME) {
                return 1;
            }
            int rule = grammar.findRule(tokens.name);
            if (rule == NONE || grammar.symbolAt(rule, 0) != dueSymbol()) {
                return 3;
            }
            tree.rules[here] = rule;
            return go(true, BEHIND_NAME);
        }

        private int dueSymbol() {
            int above = tree.above[here];
            return above == NONE ? 0 : grammar.symbolAt(tree.rules[above], tree.places[here]);
        }

        private int ownNumber() {
            if (tokens.number > NUMBER_LIMIT) {
                return 5;
            }
            tree.owns[here] = (int) tokens.number;
            return go(true, CHILDREN);
        }

        private int childOrEnd() {
            boolean isFull = filled[here] >= grammar.childCounts[tree.rules[here]];
            if (tokens.kind == '(') {
                return isFull ? 1 : openNode();
            }
            if (tokens.kind != ')' || !isFull) {
                return 1;
            }
            here = tree.above[here];
            depth--;
            return go(true, here == NONE ? CLOSED : CHILDREN);
        }
    }

    /** What hangs on what in a grammar, and whether some of it goes round. */
    private static final class Ways {
        final int[] plain = new int[SYMBOL_LIMIT];
        final boolean[] plainRound = new boolean[RULE_LIMIT];
        boolean tooLarge = false;
        final int[] graphs = new int[SYMBOL_LIMIT * GRAPH_LIMIT];
        final int[] graphCounts = new int[SYMBOL_LIMIT];
        final boolean[] exactRound = new boolean[RULE_LIMIT];
        final boolean[] comes = new boolean[RULE_LIMIT];

        private Grammar grammar;
        private final boolean[] hasGraph = new boolean[SYMBOL_LIMIT * GRAPH_LIMIT];
        private final boolean[] hasTree = new boolean[SYMBOL_LIMIT];
        private final boolean[] isReached = new boolean[SYMBOL_LIMIT];
        /** Of each spot of a RULE the spots that it hangs on, a bit for each. */
        private final int[] rows = new int[SPOTS];
        /** Of each CHILD of each RULE how many of its GRAPHS have been taken. */
        private final int[] taken = new int[RULE_LIMIT * CHILD_LIMIT];
        /** Of each CHILD of the RULE at hand from which GRAPH on, and how many, are taken now. */
        private final int[] firsts = new int[CHILD_LIMIT];
        private final int[] spans = new int[CHILD_LIMIT];

        Ways(Grammar first) {
            grammar = first;
        }

        void study(Grammar read) {
            grammar = read;
            findPlain();
            findTrees();
            findComing();
            findExact();
        }

        boolean plainGoesRound() {
            for (int r = 0; r < grammar.ruleCount; r++) {
                if (plainRound[r]) {
                    return true;
                }
            }
            return false;
        }

        boolean someTreeGoesRound() {
            for (int r = 0; r < grammar.ruleCount; r++) {
                if (comes[r] && exactRound[r]) {
                    return true;
                }
            }
            return false;
        }

        private void findPlain() {
            for (int s = 0; s < grammar.symbolCount; s++) {
                plain[s] = 0;
            }
            boolean grew = true;
            // Each pass but the last brings a pair of attributes more.
            for (int pass = 0; pass <= SYMBOL_LIMIT * GRAPH_LIMIT && grew; pass++) {
                grew = false;
                for (int r = 0; r < grammar.ruleCount; r++) {
                    grew |= takePlain(r);
                }
            }
        }

        private boolean takePlain(int rule) {
            loadEquations(rule);
            for (int k = 1; k <= grammar.childCounts[rule]; k++) {
                loadGraph(rule, k, plain[grammar.symbolAt(rule, k)]);
            }
            closeRows();
            plainRound[rule] = goesRound();
            int head = grammar.symbolAt(rule, 0);
            int joined = plain[head] | headGraph(head);
            boolean grew = joined != plain[head];
            plain[head] = joined;
            return grew;
        }

        private void findTrees() {
            for (int s = 0; s < grammar.symbolCount; s++) {
                hasTree[s] = false;
            }
            for (int pass = 0; pass < grammar.symbolCount; pass++) {
                for (int r = 0; r < grammar.ruleCount; r++) {
                    if (childrenHaveTrees(r)) {
                        hasTree[grammar.symbolAt(r, 0)] = true;
                    }
                }
            }
        }

        private boolean childrenHaveTrees(int rule) {
            for (int k = 1; k <= grammar.childCounts[rule]; k++) {
                if (!hasTree[grammar.symbolAt(rule, k)]) {
                    return false;
                }
            }
            return true;
        }

        private void findComing() {
            for (int s = 0; s < grammar.symbolCount; s++) {
                isReached[s] = s == 0;
            }
            for (int pass = 0; pass < grammar.symbolCount; pass++) {
                for (int r = 0; r < grammar.ruleCount; r++) {
                    comes[r] = isReached[grammar.symbolAt(r, 0)] && childrenHaveTrees(r);
                    for (int k = 1; k <= grammar.childCounts[r] && comes[r]; k++) {
                        isReached[grammar.symbolAt(r, k)] = true;
                    }
                }
            }
        }

        private void findExact() {
            clearExact();
            boolean grew = true;
            // Each pass but the last brings a GRAPH more.
            for (int pass = 0; pass <= SYMBOL_LIMIT * GRAPH_LIMIT && grew && !tooLarge; pass++) {
                grew = false;
                for (int r = 0; r < grammar.ruleCount && !tooLarge; r++) {
                    if (grammar.childCounts[r] > 0) {
                        grew |= takeNewChoices(r);
                    } else if (pass == 0) {
                        grew |= takeChoice(r, 0);
                    }
                }
            }
            sortGraphs();
        }

        private void clearExact() {
            tooLarge = false;
            for (int i = 0; i < hasGraph.length; i++) {
                hasGraph[i] = false;
            }
            for (int s = 0; s < SYMBOL_LIMIT; s++) {
                graphCounts[s] = 0;
            }
            for (int r = 0; r < RULE_LIMIT; r++) {
                exactRound[r] = false;
            }
            for (int i = 0; i < taken.length; i++) {
                taken[i] = 0;
            }
        }

        /**
         * Takes all choices of GRAPHS that have a new one: the first new one at each CHILD in turn,
         * so that none comes twice. The sets only grow, so what is TOO LARGE once stays so.
         */
        private boolean takeNewChoices(int rule) {
            int count = grammar.childCounts[rule];
            for (int k = 0; k < count; k++) {
                spans[k] = graphCounts[grammar.symbolAt(rule, k + 1)];
            }
            if (countChoices(count) > CHOICE_LIMIT) {
                tooLarge = true;
                return false;
            }
            boolean grew = false;
            for (int k = 0; k < count; k++) {
                int old = taken[rule * CHILD_LIMIT + k];
                int now = spans[k];
                firsts[k] = old;
                spans[k] = now - old;
                int all = countChoices(count);
                for (int choice = 0; choice < all; choice++) {
                    grew |= takeChoice(rule, choice);
                }
                taken[rule * CHILD_LIMIT + k] = now;
                firsts[k] = 0;
                spans[k] = old;
            }
            return grew;
        }

        private int countChoices(int childCount) {
            int all = 1;
            for (int k = 0; k < childCount; k++) {
                all *= spans[k];
            }
            return all;
        }

        /** A choice has a digit for each CHILD, whose base is the CHILD's span. */
        private boolean takeChoice(int rule, int choice) {
            loadEquations(rule);
            int left = choice;
            for (int k = 0; k < grammar.childCounts[rule]; k++) {
                int span = Math.max(spans[k], 1);
                int graph = firsts[k] + left % span;
                left = left / span;
                loadGraph(rule, k + 1, graphs[grammar.symbolAt(rule, k + 1) * GRAPH_LIMIT + graph]);
            }
            closeRows();
            exactRound[rule] |= goesRound();
            int head = grammar.symbolAt(rule, 0);
            return addGraph(head, headGraph(head));
        }

        private boolean addGraph(int symbol, int graph) {
            if (graph >= GRAPH_LIMIT || hasGraph[symbol * GRAPH_LIMIT + graph]) {
                return false;
            }
            hasGraph[symbol * GRAPH_LIMIT + graph] = true;
            graphs[symbol * GRAPH_LIMIT + graphCounts[symbol]] = graph;
            graphCounts[symbol]++;
            return true;
        }

        private void sortGraphs() {
            for (int s = 0; s < grammar.symbolCount; s++) {
                int count = 0;
                for (int graph = 0; graph < GRAPH_LIMIT; graph++) {
                    if (hasGraph[s * GRAPH_LIMIT + graph]) {
                        graphs[s * GRAPH_LIMIT + count] = graph;
                        count++;
                    }
                }
            }
        }

        private void loadEquations(int rule) {
            for (int i = 0; i < SPOTS; i++) {
                rows[i] = grammar.hangs[rule * SPOTS + i];
            }
        }

        private void loadGraph(int rule, int place, int graph) {
            int symbol = grammar.symbolAt(rule, place);
            int first = place * ATTRIBUTE_LIMIT;
            for (int s = 0; s < grammar.attributeCounts[symbol]; s++) {
                for (int i = 0; i < grammar.attributeCounts[symbol]; i++) {
                    if ((graph & grammar.graphBit(symbol, i, s)) != 0) {
                        rows[first + s] |= 1 << (first + i);
                    }
                }
            }
        }

        private int headGraph(int symbol) {
            int graph = 0;
            for (int s = 0; s < grammar.attributeCounts[symbol]; s++) {
                for (int i = 0; i < grammar.attributeCounts[symbol]; i++) {
                    if ((rows[s] & 1 << i) != 0) {
                        graph |= grammar.graphBit(symbol, i, s);
                    }
                }
            }
            return graph;
        }

        /** Warshall's way: after step k all ways whose inner spots are 0 .. k are told. */
        private void closeRows() {
            for (int k = 0; k < SPOTS; k++) {
                for (int i = 0; i < SPOTS && rows[k] != 0; i++) {
                    if ((rows[i] & 1 << k) != 0) {
                        rows[i] |= rows[k];
                    }
                }
            }
        }

        private boolean goesRound() {
            for (int i = 0; i < SPOTS; i++) {
                if ((rows[i] & 1 << i) != 0) {
                    return true;
                }
            }
            return false;
        }
    }

    /** Works the attributes of a TREE out; an item is one of a NODE: 6 times its NODE and its number. */
    private static final class Worker {
        // How far an item is.
        private static final int UNTOUCHED = 0;
        private static final int ON_WAY = 1;
        private static final int HAS_NUMBER = 2;
        private static final int IS_BAD = 3;

        private static final int GOES_ROUND = 2;

        final int[] numbers = new int[ITEM_LIMIT];
        final int[] order = new int[ITEM_LIMIT];
        int orderSize = 0;

        private Grammar grammar;
        private Tree tree;
        private final int[] states = new int[ITEM_LIMIT];
        /** The items on their way, each demanded by the one ahead of it. */
        private final int[] way = new int[ITEM_LIMIT];
        /** Of each on its way the NODE whose RULE has its EQUATION, that, and how far its OCCS are demanded. */
        private final int[] bases = new int[ITEM_LIMIT];
        private final int[] equations = new int[ITEM_LIMIT];
        private final int[] codeAt = new int[ITEM_LIMIT];
        private int wayLength = 0;
        private final int[] values = new int[TOKEN_LIMIT];
        private final boolean[] bads = new boolean[TOKEN_LIMIT];
        private int valueCount = 0;

        Worker(Grammar by, Tree on) {
            grammar = by;
            tree = on;
        }

        void begin(Grammar by, Tree on) {
            forget();
            grammar = by;
            tree = on;
        }

        void forget() {
            for (int i = 0; i < orderSize; i++) {
                states[order[i]] = UNTOUCHED;
                numbers[order[i]] = 0;
            }
            orderSize = 0;
        }

        /** NONE if it isn't worked out, 0 a number, 1 BAD. */
        int outcome(int item) {
            int state = states[item];
            return state == HAS_NUMBER ? 0 : state == IS_BAD ? 1 : NONE;
        }

        int workOut(int item) {
            wayLength = 0;
            if (isOpen(item)) {
                enter(item);
            }
            // Each item is entered once and left once.
            for (int i = 0; i < 2 * ITEM_LIMIT && wayLength > 0; i++) {
                int next = nextOpen();
                if (next == NONE) {
                    leave();
                } else if (states[next] == ON_WAY) {
                    giveUp();
                    return GOES_ROUND;
                } else {
                    enter(next);
                }
            }
            return outcome(item);
        }

        private boolean isOpen(int item) {
            return states[item] == UNTOUCHED || states[item] == ON_WAY;
        }

        private void enter(int item) {
            if (wayLength < ITEM_LIMIT) {
                int node = item / ATTRIBUTE_LIMIT;
                int attribute = item % ATTRIBUTE_LIMIT;
                int symbol = grammar.symbolAt(tree.rules[node], 0);
                // The root has no inherited attribute, so there is a NODE above.
                boolean isTold = grammar.isInherited(symbol, attribute) && tree.above[node] != NONE;
                int base = isTold ? tree.above[node] : node;
                int place = isTold ? tree.places[node] : 0;
                int equation = tree.rules[base] * SPOTS + place * ATTRIBUTE_LIMIT + attribute;
                states[item] = ON_WAY;
                way[wayLength] = item;
                bases[wayLength] = base;
                equations[wayLength] = equation;
                codeAt[wayLength] = grammar.codeStarts[equation];
                wayLength++;
            }
        }

        private void leave() {
            wayLength--;
            int item = way[wayLength];
            evaluate(bases[wayLength], equations[wayLength]);
            states[item] = bads[0] ? IS_BAD : HAS_NUMBER;
            numbers[item] = bads[0] ? 0 : values[0];
            if (orderSize < ITEM_LIMIT) {
                order[orderSize] = item;
                orderSize++;
            }
        }

        private void giveUp() {
            for (int i = 0; i < wayLength; i++) {
                states[way[i]] = UNTOUCHED;
            }
            wayLength = 0;
        }

        /** What the last on its way hangs on and isn't worked out yet, by order of the OCCS; NONE without. */
        private int nextOpen() {
            int last = wayLength - 1;
            int end = grammar.codeEnds[equations[last]];
            for (int c = codeAt[last]; c < end; c++) {
                if (grammar.operations[c] == OCCURRENCE) {
                    int named = itemAt(bases[last], grammar.operands[c]);
                    if (isOpen(named)) {
                        codeAt[last] = c;
                        return named;
                    }
                }
            }
            return NONE;
        }

        private int itemAt(int base, int spot) {
            return tree.nodeAt(base, spot / ATTRIBUTE_LIMIT) * ATTRIBUTE_LIMIT + spot % ATTRIBUTE_LIMIT;
        }

        /** Leaves what the E comes to at 0 of the values. */
        private void evaluate(int base, int equation) {
            valueCount = 0;
            for (int c = grammar.codeStarts[equation]; c < grammar.codeEnds[equation]; c++) {
                switch (grammar.operations[c]) {
                    case NUMBER:
                        put(grammar.operands[c], false);
                        break;
                    case OWN:
                        put(tree.owns[base], false);
                        break;
                    case OCCURRENCE:
                        int named = itemAt(base, grammar.operands[c]);
                        put(numbers[named], states[named] == IS_BAD);
                        break;
                    default:
                        operate(grammar.operations[c]);
                        break;
                }
            }
        }

        private void put(int value, boolean isBad) {
            if (valueCount < TOKEN_LIMIT) {
                values[valueCount] = value;
                bads[valueCount] = isBad;
                valueCount++;
            }
        }

        private void operate(int operation) {
            if (operation == NEGATE) {
                if (valueCount >= 1) {
                    values[valueCount - 1] = -values[valueCount - 1];
                }
            } else if (operation == ELSE) {
                if (valueCount >= 3) {
                    choose(valueCount - 3);
                }
            } else if (valueCount >= 2) {
                combine(operation, valueCount - 2);
            }
        }

        private void choose(int first) {
            int chosen = values[first] != 0 ? first + 1 : first + 2;
            values[first] = values[chosen];
            bads[first] = bads[first] || bads[chosen];
            valueCount = first + 1;
        }

        private void combine(int operation, int first) {
            int left = values[first];
            int right = values[first + 1];
            boolean divides = operation == '/' || operation == '%';
            bads[first] = bads[first] || bads[first + 1] || divides && right == 0;
            values[first] = bads[first] ? 0 : result(operation, left, right);
            valueCount = first + 1;
        }

        private static int result(int operation, int left, int right) {
            switch (operation) {
                case '+':
                    return left + right;
                case '-':
                    return left - right;
                case '*':
                    return left * right;
                case '/':
                    return right == 0 ? 0 : left / right;
                case '%':
                    return right == 0 ? 0 : left % right;
                case '<':
                    return left < right ? 1 : 0;
                default:
                    return left == right ? 1 : 0;
            }
        }
    }
}
