import java.util.Arrays;

/** A house of a guest machine with value classes; ../shared/DOC.md says what each call does. */
public final class FlatHouse {
    public static final int NONE = -1;

    private static final int TAPE_BYTES = 3000;
    private static final int MOST_STEPS = 4000;

    private final byte[] tape;
    private int taped;
    private final Words words;
    private final Plan plan;
    private final Statements grammar;
    private final Layout layout;
    private final Machine machine;
    private final Picture picture;
    private boolean ran;

    public FlatHouse() {
        tape = new byte[TAPE_BYTES];
        words = new Words();
        plan = new Plan();
        grammar = new Statements(words, plan);
        layout = new Layout(plan);
        Heap heap = new Heap(plan);
        machine = new Machine(plan, layout, heap);
        picture = new Picture(plan, layout, heap);
    }

    public boolean feed(int a, int b, int c, int d, int e) {
        if (taped + 20 > TAPE_BYTES) {
            return false;
        }
        tapeNumber(a);
        tapeNumber(b);
        tapeNumber(c);
        tapeNumber(d);
        tapeNumber(e);
        return true;
    }

    private void tapeNumber(int number) {
        for (int shift = 24; shift >= 0 && taped < TAPE_BYTES; shift -= 8) {
            tape[taped] = (byte) (number >>> shift);
            taped++;
        }
    }

    public boolean end(int n) {
        if (n < 0 || n > taped) {
            return false;
        }
        taped = n;
        return true;
    }

    public int program() {
        words.scan(tape, taped);
        taped = 0;
        forgetRun();
        int met = grammar.readText();
        layout.arrange();
        return met;
    }

    private void forgetRun() {
        ran = false;
        picture.forget();
    }

    public int fault(int what) {
        return what == 0 ? grammar.faultMet() : what == 1 ? grammar.faultPlace() : NONE;
    }

    public int count(int what) {
        switch (what) {
            case 0: return plan.classes;
            case 1: return plan.fields[Plan.GLOBALS];
            case 2: return plan.funs;
            case 3: return plan.words;
            default: return NONE;
        }
    }

    public boolean policy(int most, int bits, int parts) {
        if (most < 0 || most > 32 || bits < 0 || bits > 7 || parts < 0 || parts > 16) {
            return false;
        }
        layout.choose(most, bits, parts);
        layout.arrange();
        forgetRun();
        return true;
    }

    public int type(int c, int what) {
        return c < 0 || c >= plan.classes ? NONE : layout.ofClass(c, what);
    }

    public int slot(int c, int f, int what) {
        if (c != NONE && (c < 0 || c >= plan.classes)) {
            return NONE;
        }
        return layout.ofField(c == NONE ? Plan.GLOBALS : c, f, what);
    }

    public int element(int code, int what) {
        return plan.hasCode(code) ? layout.ofElement(code, what) : NONE;
    }

    public int fun(int k, int what) {
        if (k < 0 || k >= plan.funs) {
            return NONE;
        }
        switch (what) {
            case 0: return plan.params[k];
            case 1: return plan.results[k];
            case 2: return layout.funWords[k];
            default: return NONE;
        }
    }

    public int run(int k, int seed, int steps) throws IllegalStateException, IllegalArgumentException {
        if (plan.funs == 0) {
            throw new IllegalStateException("no program");
        }
        if (k < 0 || k >= plan.funs) {
            throw new IllegalArgumentException("no such FUN");
        }
        if (plan.params[k] != 0 || steps < 1 || steps > MOST_STEPS) {
            throw new IllegalArgumentException("a FUN with parameters, or steps out of bounds");
        }
        forgetRun();
        ran = true;
        return machine.execute(k, seed, steps);
    }

    public int result(int what) {
        return ran ? machine.told(what) : NONE;
    }

    public long output(int i) {
        return ran ? machine.putOut(i) : 0L;
    }

    public int thread(int t, int what) {
        return ran ? machine.ofThread(t, what) : NONE;
    }

    public int image() {
        if (!ran) {
            picture.forget();
            return NONE;
        }
        return picture.make();
    }

    public int byteAt(int i) {
        return picture.at(i);
    }

    /** The words of a text: their kinds, places and worths. A word that is none ends them. */
    private static final class Words {
        static final int MOST = 3000;
        static final int END = 0;
        static final int BAD = 1;
        static final int NAME = 2;
        static final int NUMBER = 3;
        static final int BITS = 4;
        static final int EQUAL = 5;
        static final int CLASS = 200;
        static final int VALUE = 201;
        static final int GLOBAL = 202;
        static final int FUN = 203;
        static final int BYTE = 204;
        static final int ANY = 208;
        static final int NULL = 209;
        static final int NEW = 210;
        static final int IF = 211;
        static final int ELSE = 212;
        static final int WHILE = 213;
        static final int RETURN = 214;
        static final int OUT = 215;
        static final int LOCK = 216;
        static final int SPAWN = 217;
        static final int TRY = 218;
        static final int CATCH = 219;
        static final int FAIL = 220;
        static final int LEN = 221;
        static final int HASH = 222;
        static final int NOT = 223;
        static final int IS = 224;
        static final int AS = 225;
        static final int WITH = 226;

        /** In the order of the kinds above, from CLASS on. */
        private static final String KEYWORDS = "class value global fun byte int long float any null new if else while return out lock spawn try catch fail len hash not is as with ";
        private static final String SIGNS = "{}()[],;.!=<+-*/%";
        private static final long GREATEST = 2147483647L;

        final int[] kind;
        final int[] place;
        /** A NAME's letters, eight bits each; a NUMBER; BITS as an int. */
        final long[] worth;
        int total;
        private final long[] keyword;

        Words() {
            kind = new int[MOST + 2];
            place = new int[MOST + 2];
            worth = new long[MOST + 2];
            keyword = new long[WITH - CLASS + 1];
            int k = 0;
            for (int i = 0; i < KEYWORDS.length() && k < keyword.length; i++) {
                char c = KEYWORDS.charAt(i);
                if (c == ' ') {
                    k++;
                } else {
                    keyword[k] = keyword[k] << 8 | c;
                }
            }
        }

        void scan(byte[] text, int length) {
            total = 0;
            int at = 0;
            for (int round = 0; round < MOST && at < length; round++) {
                if (isBlank(text[at])) {
                    at++;
                } else {
                    place[total] = at;
                    at = scanWord(text, length, at);
                    total++;
                    if (kind[total - 1] == BAD) {
                        break;
                    }
                }
            }
            kind[total] = END;
            place[total] = length;
        }

        private int scanWord(byte[] text, int length, int at) {
            int first = text[at];
            if (isLetter(first)) {
                return scanName(text, length, at);
            }
            if (isDigit(first)) {
                return scanNumber(text, length, at);
            }
            if (first == '#') {
                return scanBits(text, length, at + 1);
            }
            boolean sign = first > 0 && SIGNS.indexOf((char) first) >= 0;
            if (first == '=' && at + 1 < length && text[at + 1] == '=') {
                kind[total] = EQUAL;
                return at + 2;
            }
            kind[total] = sign ? first : BAD;
            return at + 1;
        }

        private int scanName(byte[] text, int length, int start) {
            long name = 0;
            int at = start;
            while (at < length && (isLetter(text[at]) || isDigit(text[at]))) {
                name = name << 8 | text[at];
                at++;
            }
            worth[total] = name;
            kind[total] = at - start > 8 ? BAD : NAME;
            for (int k = 0; k < keyword.length; k++) {
                if (at - start <= 8 && keyword[k] == name) {
                    kind[total] = CLASS + k;
                }
            }
            return at;
        }

        private int scanNumber(byte[] text, int length, int start) {
            long number = 0;
            int at = start;
            while (at < length && isDigit(text[at])) {
                number = Math.min(number * 10 + text[at] - '0', GREATEST + 1);
                at++;
            }
            worth[total] = number;
            kind[total] = number > GREATEST ? BAD : NUMBER;
            return at;
        }

        private int scanBits(byte[] text, int length, int start) {
            int bits = 0;
            int at = start;
            while (at < length && hexWorth(text[at]) >= 0) {
                bits = bits << 4 | hexWorth(text[at]);
                at++;
            }
            worth[total] = bits;
            kind[total] = at == start || at - start > 8 ? BAD : BITS;
            return at;
        }

        private static boolean isBlank(int c) {
            return c == ' ' || c == '\n';
        }

        private static boolean isLetter(int c) {
            return c >= 'a' && c <= 'z' || c >= 'A' && c <= 'Z';
        }

        private static boolean isDigit(int c) {
            return c >= '0' && c <= '9';
        }

        private static int hexWorth(int c) {
            return isDigit(c) ? c - '0' : c >= 'a' && c <= 'f' ? c - 'a' + 10 : NONE;
        }
    }

    /**
     * The program as it was read: CLASSES, GLOBALS (kept as one more class), FUNS and the code of these.
     * TYPES are the document's CODES, of an ARRAY 100 more.
     */
    private static final class Plan {
        static final int MOST_CLASSES = 8;
        static final int MOST_FIELDS = 4;
        static final int MOST_GLOBALS = 6;
        static final int MOST_FUNS = 10;
        static final int MOST_PARAMS = 3;
        static final int GLOBALS = MOST_CLASSES;
        static final int BYTE = 0;
        static final int INT = 1;
        static final int LONG = 2;
        static final int FLOAT = 3;
        static final int ANY = 4;
        static final int FIRST_CLASS = 5;
        static final int CODES = FIRST_CLASS + 2 * MOST_CLASSES;
        static final int NULL = 50;
        static final int ARRAY = 100;

        private static final int CODE_ROOM = 2 * Words.MOST;

        static final int STEP = 0;
        static final int JUMP = 1;
        static final int JUMP_IF_NOT = 2;
        static final int CALL = 3;
        static final int SPAWN = 4;
        static final int RETURN = 5;
        static final int END_FUN = 6;
        static final int OPEN_TRY = 7;
        static final int CLOSE = 8;
        static final int LOCK = 9;
        static final int FAIL = 10;
        static final int OUT = 11;
        static final int DROP = 12;
        static final int PUSH = 20;
        static final int LOCAL = 21;
        static final int SET_LOCAL = 22;
        static final int GLOBAL = 23;
        static final int SET_GLOBAL = 24;
        static final int FIELD = 25;
        static final int SET_FIELD = 26;
        static final int ELEMENT = 27;
        static final int SET_ELEMENT = 28;
        static final int LENGTH = 29;
        static final int HASH = 30;
        static final int IS = 31;
        static final int AS = 32;
        static final int SAME = 33;
        static final int WITH = 34;
        static final int NEW = 35;
        static final int NEW_ARRAY = 36;
        static final int NEW_FILLED = 37;
        static final int NOT = 40;
        static final int NEGATE = 41;
        static final int CAST = 42;
        static final int EQUAL = 43;
        static final int LESS = 44;
        static final int ADD = 45;
        static final int SUBTRACT = 46;
        static final int MULTIPLY = 47;
        static final int DIVIDE = 48;
        static final int REMAINDER = 49;

        int classes;
        int funs;
        int words;
        private int size;
        final long[] className;
        final boolean[] valued;
        final boolean[] ring;
        final int[] fields;
        final long[] fieldName;
        final int[] fieldType;
        final long[] funName;
        final int[] params;
        final int[] paramType;
        final int[] results;
        final int[] start;
        private final int[] op;
        private final int[] arg;

        Plan() {
            className = new long[MOST_CLASSES];
            valued = new boolean[MOST_CLASSES];
            ring = new boolean[MOST_CLASSES];
            fields = new int[MOST_CLASSES + 1];
            fieldName = new long[MOST_CLASSES * MOST_FIELDS + MOST_GLOBALS];
            fieldType = new int[MOST_CLASSES * MOST_FIELDS + MOST_GLOBALS];
            funName = new long[MOST_FUNS];
            params = new int[MOST_FUNS];
            paramType = new int[MOST_FUNS * MOST_PARAMS];
            results = new int[MOST_FUNS];
            start = new int[MOST_FUNS];
            op = new int[CODE_ROOM];
            arg = new int[CODE_ROOM];
        }

        void clear() {
            classes = 0;
            funs = 0;
            words = 0;
            size = 0;
            Arrays.fill(fields, 0);
        }

        static boolean isNumber(int t) {
            return t >= BYTE && t <= FLOAT;
        }

        static boolean isReference(int t) {
            return t >= ANY;
        }

        static boolean isArray(int t) {
            return t >= ARRAY;
        }

        /** The CLASS of a TYPE that is neither an ARRAY's nor a number's nor any; else NONE. */
        static int classOf(int t) {
            return t >= FIRST_CLASS && t < CODES ? (t - FIRST_CLASS) / 2 : NONE;
        }

        /** Whether it is a TYPE with ! and not an ARRAY of such. */
        static boolean isNeverNull(int t) {
            return t > FIRST_CLASS && t < CODES && (t - FIRST_CLASS) % 2 == 1;
        }

        static int classType(int c) {
            return FIRST_CLASS + 2 * c;
        }

        /** As an E a byte is an int. */
        static int asE(int t) {
            return t == BYTE ? INT : t;
        }

        static int firstField(int c) {
            return c * MOST_FIELDS;
        }

        int valueClassOf(int t) {
            int c = classOf(t);
            return c != NONE && c < classes && valued[c] ? c : NONE;
        }

        boolean hasCode(int code) {
            if (code >= BYTE && code < FIRST_CLASS) {
                return true;
            }
            int c = classOf(code);
            return c != NONE && c < classes && (valued[c] || !isNeverNull(code));
        }

        boolean fits(int want, int got) {
            if (isNumber(want)) {
                return got == asE(want);
            }
            if (want == ANY) {
                return isReference(got);
            }
            if (got == NULL) {
                return !isNeverNull(want);
            }
            int c = valueClassOf(want);
            return got == want || c != NONE && classOf(got) == c;
        }

        int findClass(long name) {
            return find(className, 0, classes, name);
        }

        int findField(int c, long name) {
            int at = find(fieldName, firstField(c), fields[c], name);
            return at == NONE ? NONE : firstField(c) + at;
        }

        int findFun(long name) {
            return find(funName, 0, funs, name);
        }

        private static int find(long[] names, int from, int many, long name) {
            for (int i = 0; i < many && from + i < names.length; i++) {
                if (names[from + i] == name) {
                    return i;
                }
            }
            return NONE;
        }

        /** Where what it adds to the code stands. */
        int emit(int what, int with) {
            if (size >= CODE_ROOM) {
                return CODE_ROOM - 1;
            }
            op[size] = what;
            arg[size] = with;
            size++;
            return size - 1;
        }

        int here() {
            return size;
        }

        void aimHere(int jump) {
            if (jump >= 0 && jump < CODE_ROOM) {
                arg[jump] = size;
            }
        }

        int opAt(int at) {
            return at >= 0 && at < size ? op[at] : END_FUN;
        }

        int argAt(int at) {
            return at >= 0 && at < size ? arg[at] : 0;
        }
    }

    /** Goes over the words; knows the LOCALS that are there, and the FAULT that was met. */
    private static final class Reader {
        static final int CANT_STAND = 1;
        static final int THERE_ALREADY = 2;
        static final int NONE_THERE = 3;
        static final int TOO_MANY = 4;
        static final int UNFIT = 5;
        static final int MOST_LOCALS = 8;
        static final int MOST_DEPTH = 20;

        private final Words words;
        private final Plan plan;
        int at;
        int met;
        int metAt;
        int locals;
        final long[] localName;
        final int[] localType;
        /** The word ! of the TYPE that was read last, if it has one. */
        int bangAt;

        Reader(Words words, Plan plan) {
            this.words = words;
            this.plan = plan;
            metAt = NONE;
            localName = new long[MOST_LOCALS];
            localType = new int[MOST_LOCALS];
        }

        void begin() {
            at = 0;
            met = 0;
            metAt = NONE;
            locals = 0;
        }

        int kind() {
            return words.kind[at];
        }

        int kindBehind(int further) {
            return at + further <= words.total ? words.kind[at + further] : Words.END;
        }

        long worth() {
            return words.worth[at];
        }

        void pass() {
            if (at < words.total) {
                at++;
            }
        }

        /** Ends the reading; Statements.readText takes it from there. */
        void stop(int fault, int word) {
            met = fault;
            metAt = words.place[word];
            throw new IllegalStateException("a FAULT");
        }

        void need(int kind) {
            if (kind() != kind) {
                stop(CANT_STAND, at);
            }
        }

        void take(int kind) {
            need(kind);
            pass();
        }

        void fit(int want, int got, int firstWord) {
            if (!plan.fits(want, got)) {
                stop(UNFIT, firstWord);
            }
        }

        int readClassName() {
            if (kind() != Words.NAME) {
                stop(CANT_STAND, at);
            }
            int c = plan.findClass(worth());
            if (c == NONE) {
                stop(NONE_THERE, at);
            }
            pass();
            return c;
        }

        boolean beginsType() {
            int kind = kind();
            if (kind >= Words.BYTE && kind <= Words.ANY) {
                return true;
            }
            int next = kindBehind(1);
            return kind == Words.NAME && (next == Words.NAME || next == '!' || next == '[' && kindBehind(2) == ']');
        }

        /** An element's TYPE takes no [ ]. */
        int readType(boolean ofElement) {
            int t;
            int kind = kind();
            if (kind >= Words.BYTE && kind <= Words.ANY) {
                t = kind - Words.BYTE;
                pass();
            } else {
                t = Plan.classType(readClassName());
            }
            if (kind() == '!') {
                if (plan.valueClassOf(t) == NONE) {
                    stop(UNFIT, at);
                }
                bangAt = at;
                pass();
                t++;
            }
            if (!ofElement && kind() == '[' && kindBehind(1) == ']') {
                pass();
                pass();
                t += Plan.ARRAY;
            }
            return t;
        }

        int findLocal(long name) {
            for (int i = 0; i < locals; i++) {
                if (localName[i] == name) {
                    return i;
                }
            }
            return NONE;
        }

        /** The NAME at hand, to be that of one more LOCAL. */
        long readLocalName() {
            need(Words.NAME);
            long name = worth();
            if (locals >= MOST_LOCALS) {
                stop(TOO_MANY, at);
            }
            if (findLocal(name) != NONE) {
                stop(THERE_ALREADY, at);
            }
            pass();
            return name;
        }

        void addLocal(long name, int type) {
            if (locals < MOST_LOCALS) {
                localName[locals] = name;
                localType[locals] = type;
                locals++;
            }
        }
    }

    /** Reads Es; each method answers the TYPE of what it read and leaves the code for it. */
    private static final class Expressions {
        private final Reader in;
        private final Plan plan;

        Expressions(Reader in, Plan plan) {
            this.in = in;
            this.plan = plan;
        }

        int readE(int depth) {
            lookAtDepth(depth);
            int left = readSum(depth);
            int kind = in.kind();
            if (kind != Words.EQUAL && kind != '<') {
                return left;
            }
            int word = in.at;
            in.pass();
            int right = readSum(depth);
            boolean numbers = Plan.isNumber(left) && left == right;
            if (kind == Words.EQUAL && Plan.isReference(left) && Plan.isReference(right)) {
                plan.emit(Plan.SAME, 0);
            } else if (numbers) {
                plan.emit(kind == '<' ? Plan.LESS : Plan.EQUAL, left);
            } else {
                in.stop(Reader.UNFIT, word);
            }
            return Plan.INT;
        }

        /** An E that is to FIT. */
        void readFitting(int want, int depth) {
            int first = in.at;
            in.fit(want, readE(depth), first);
        }

        private void lookAtDepth(int depth) {
            if (depth > Reader.MOST_DEPTH) {
                in.stop(beginsE(in.kind()) ? Reader.TOO_MANY : Reader.CANT_STAND, in.at);
            }
        }

        private static boolean beginsE(int kind) {
            switch (kind) {
                case Words.NUMBER:
                case Words.BITS:
                case Words.NAME:
                case Words.NULL:
                case Words.NEW:
                case '(':
                    return true;
                default:
                    return isPrefix(kind);
            }
        }

        private static boolean isPrefix(int kind) {
            return kind == '-' || kind == Words.NOT || kind == Words.LEN || kind == Words.HASH;
        }

        private int readSum(int depth) {
            int left = readProduct(depth);
            for (int i = 0; i < Words.MOST; i++) {
                int kind = in.kind();
                if (kind != '+' && kind != '-') {
                    break;
                }
                int word = in.at;
                in.pass();
                int right = readProduct(depth);
                reckon(kind == '+' ? Plan.ADD : Plan.SUBTRACT, word, left, right);
            }
            return left;
        }

        private int readProduct(int depth) {
            int left = readPrefix(depth);
            for (int i = 0; i < Words.MOST; i++) {
                int kind = in.kind();
                if (kind != '*' && kind != '/' && kind != '%') {
                    break;
                }
                int word = in.at;
                in.pass();
                int right = readPrefix(depth);
                reckon(kind == '*' ? Plan.MULTIPLY : kind == '/' ? Plan.DIVIDE : Plan.REMAINDER, word, left, right);
            }
            return left;
        }

        private void reckon(int op, int word, int left, int right) {
            if (!Plan.isNumber(left) || left != right || op == Plan.REMAINDER && left == Plan.FLOAT) {
                in.stop(Reader.UNFIT, word);
            }
            plan.emit(op, left);
        }

        private int readPrefix(int depth) {
            int kind = in.kind();
            if (!isPrefix(kind)) {
                return readTail(readAtom(depth), depth);
            }
            int word = in.at;
            in.pass();
            lookAtDepth(depth + 1);
            int t = readPrefix(depth + 1);
            boolean good = kind == '-' ? Plan.isNumber(t) : kind == Words.NOT ? t == Plan.INT
                    : kind == Words.LEN ? Plan.isArray(t) : Plan.isReference(t);
            if (!good) {
                in.stop(Reader.UNFIT, word);
            }
            plan.emit(kind == '-' ? Plan.NEGATE : kind == Words.NOT ? Plan.NOT
                    : kind == Words.LEN ? Plan.LENGTH : Plan.HASH, t);
            return kind == '-' ? t : Plan.INT;
        }

        private int readTail(int atom, int depth) {
            int t = atom;
            for (int i = 0; i < Words.MOST; i++) {
                switch (in.kind()) {
                    case '.':
                        int field = readDot(t);
                        plan.emit(Plan.FIELD, field);
                        t = Plan.asE(plan.fieldType[field]);
                        break;
                    case '[':
                        readIndex(t, depth);
                        plan.emit(Plan.ELEMENT, 0);
                        t = Plan.asE(t - Plan.ARRAY);
                        break;
                    case Words.IS:
                        readIs(t);
                        t = Plan.INT;
                        break;
                    case Words.AS:
                        int word = in.at;
                        in.pass();
                        t = turnInto(in.readType(false), t, word);
                        break;
                    case Words.WITH:
                        t = readWith(t, depth);
                        break;
                    default:
                        return t;
                }
            }
            return t;
        }

        /** . NAME behind what is of this TYPE: which FIELD. */
        int readDot(int left) {
            int c = Plan.classOf(left);
            if (c == NONE) {
                in.stop(Reader.UNFIT, in.at);
            }
            in.pass();
            return readField(c);
        }

        private int readField(int c) {
            in.need(Words.NAME);
            int field = plan.findField(c, in.worth());
            if (field == NONE) {
                in.stop(Reader.NONE_THERE, in.at);
            }
            in.pass();
            return field;
        }

        /** [ E ] behind what is of this TYPE. */
        void readIndex(int left, int depth) {
            if (!Plan.isArray(left)) {
                in.stop(Reader.UNFIT, in.at);
            }
            in.pass();
            readFitting(Plan.INT, depth + 1);
            in.take(']');
        }

        private void readIs(int left) {
            if (!Plan.isReference(left)) {
                in.stop(Reader.UNFIT, in.at);
            }
            in.pass();
            plan.emit(Plan.IS, in.readClassName());
        }

        private int turnInto(int t, int left, int word) {
            if (Plan.isNumber(left) != Plan.isNumber(t)) {
                in.stop(Reader.UNFIT, word);
            }
            if (Plan.isNumber(t)) {
                plan.emit(Plan.CAST, left * 4 + t);
            } else {
                plan.emit(Plan.AS, t);
            }
            return Plan.asE(t);
        }

        private int readWith(int left, int depth) {
            int c = plan.valueClassOf(left);
            if (c == NONE) {
                in.stop(Reader.UNFIT, in.at);
            }
            in.pass();
            int field = readField(c);
            in.take('(');
            readFitting(plan.fieldType[field], depth + 1);
            in.take(')');
            plan.emit(Plan.WITH, field);
            return Plan.classType(c) + 1;
        }

        private int readAtom(int depth) {
            int kind = in.kind();
            switch (kind) {
                case Words.NUMBER:
                case Words.BITS:
                    plan.emit(Plan.PUSH, (int) in.worth());
                    in.pass();
                    return kind == Words.BITS ? Plan.FLOAT : Plan.INT;
                case Words.NULL:
                    plan.emit(Plan.PUSH, 0);
                    in.pass();
                    return Plan.NULL;
                case Words.NAME:
                    if (in.kindBehind(1) == '(') {
                        return readCallInE(depth);
                    }
                    return readVariable();
                case '(':
                    in.pass();
                    int inner = readE(depth + 1);
                    in.take(')');
                    return inner;
                case Words.NEW:
                    in.pass();
                    return in.kind() == Words.NAME && in.kindBehind(1) == '(' ? readNew(depth) : readNewArray(depth);
                default:
                    in.stop(Reader.CANT_STAND, in.at);
                    return NONE;
            }
        }

        private int readVariable() {
            int local = in.findLocal(in.worth());
            int global = plan.findField(Plan.GLOBALS, in.worth());
            if (local == NONE && global == NONE) {
                in.stop(Reader.NONE_THERE, in.at);
            }
            in.pass();
            plan.emit(local != NONE ? Plan.LOCAL : Plan.GLOBAL, local != NONE ? local : global);
            return Plan.asE(local != NONE ? in.localType[local] : plan.fieldType[global]);
        }

        private int readCallInE(int depth) {
            int k = readCalled();
            readArguments(k, true, depth);
            plan.emit(Plan.CALL, k);
            return Plan.asE(plan.results[k]);
        }

        /** The FUN that the NAME at hand, which stays so, is the NAME of. */
        int readCalled() {
            in.need(Words.NAME);
            int k = plan.findFun(in.worth());
            if (k == NONE) {
                in.stop(Reader.NONE_THERE, in.at);
            }
            return k;
        }

        /** NAME ( Es ) of FUN k; depth is that of what the CALL stands in. */
        void readArguments(int k, boolean withinE, int depth) {
            int word = in.at;
            in.pass();
            in.take('(');
            int many = readEs(plan.paramType, k * Plan.MOST_PARAMS, plan.params[k], depth);
            if (many != plan.params[k] || withinE && plan.results[k] == NONE) {
                in.stop(Reader.UNFIT, word);
            }
            in.take(')');
        }

        /** Es with , between, up to ahead of the ) behind them: how many. Those one too many FIT nothing. */
        private int readEs(int[] types, int from, int most, int depth) {
            if (in.kind() == ')') {
                return 0;
            }
            int many = 0;
            for (int i = 0; i < Words.MOST; i++) {
                if (many < most && from + many < types.length) {
                    readFitting(types[from + many], depth + 1);
                } else {
                    readE(depth + 1);
                }
                many++;
                if (in.kind() != ',') {
                    break;
                }
                in.pass();
            }
            in.need(')');
            return many;
        }

        private int readNew(int depth) {
            int word = in.at;
            int c = in.readClassName();
            in.take('(');
            int many = readEs(plan.fieldType, Plan.firstField(c), plan.fields[c], depth);
            if (many != plan.fields[c]) {
                in.stop(Reader.UNFIT, word);
            }
            in.take(')');
            plan.emit(Plan.NEW, c);
            return Plan.classType(c) + (plan.valued[c] ? 1 : 0);
        }

        private int readNewArray(int depth) {
            int t = in.readType(true);
            in.take('[');
            readFitting(Plan.INT, depth + 1);
            in.take(']');
            if (Plan.isNeverNull(t)) {
                in.take('(');
                readFitting(t, depth + 1);
                in.take(')');
                plan.emit(Plan.NEW_FILLED, t);
            } else {
                plan.emit(Plan.NEW_ARRAY, t);
            }
            return t + Plan.ARRAY;
        }
    }

    /** Reads a PROGRAM down to its STATEMENTS and leaves the code for it. */
    private static final class Statements {
        private final Words words;
        private final Plan plan;
        private final Reader in;
        private final Expressions es;
        /** The RESULT of the FUN that is read. */
        private int due;

        Statements(Words words, Plan plan) {
            this.words = words;
            this.plan = plan;
            in = new Reader(words, plan);
            es = new Expressions(in, plan);
        }

        int faultMet() {
            return in.met;
        }

        int faultPlace() {
            return in.metAt;
        }

        /** The FAULT, or 0; with one there is no program left. */
        int readText() {
            plan.clear();
            in.begin();
            try {
                readClasses();
                readGlobals();
                in.need(Words.FUN);
                for (int i = 0; i < Words.MOST && in.kind() == Words.FUN; i++) {
                    readFun();
                }
                in.need(Words.END);
                plan.words = words.total;
            } catch (IllegalStateException stopped) {
                plan.clear();
            }
            return in.met;
        }

        private void readClasses() {
            for (int i = 0; i < Words.MOST && (in.kind() == Words.CLASS || in.kind() == Words.VALUE); i++) {
                readClass();
            }
        }

        private void readGlobals() {
            for (int i = 0; i < Words.MOST && in.kind() == Words.GLOBAL; i++) {
                readGlobal();
            }
        }

        private void readClass() {
            int c = plan.classes;
            if (c >= Plan.MOST_CLASSES) {
                in.stop(Reader.TOO_MANY, in.at);
            }
            boolean valued = in.kind() == Words.VALUE;
            in.pass();
            in.need(Words.NAME);
            if (plan.findClass(in.worth()) != NONE) {
                in.stop(Reader.THERE_ALREADY, in.at);
            }
            plan.className[c] = in.worth();
            plan.valued[c] = valued;
            plan.ring[c] = false;
            plan.classes++;
            in.pass();
            in.take('{');
            for (int i = 0; i < Words.MOST && in.kind() != '}'; i++) {
                int t = in.readType(false);
                if (Plan.isNeverNull(t) && Plan.classOf(t) == c) {
                    in.stop(Reader.UNFIT, in.bangAt);
                }
                if (valued && t == Plan.classType(c)) {
                    plan.ring[c] = true;
                }
                readFieldName(c, Plan.MOST_FIELDS, t);
            }
            in.take('}');
        }

        private void readGlobal() {
            if (plan.fields[Plan.GLOBALS] >= Plan.MOST_GLOBALS) {
                in.stop(Reader.TOO_MANY, in.at);
            }
            in.pass();
            int t = in.readType(false);
            if (Plan.isNeverNull(t)) {
                in.stop(Reader.UNFIT, in.bangAt);
            }
            readFieldName(Plan.GLOBALS, Plan.MOST_GLOBALS, t);
        }

        private void readFieldName(int c, int most, int t) {
            in.need(Words.NAME);
            int f = plan.fields[c];
            if (f >= most) {
                in.stop(Reader.TOO_MANY, in.at);
            }
            if (plan.findField(c, in.worth()) != NONE) {
                in.stop(Reader.THERE_ALREADY, in.at);
            }
            plan.fieldName[Plan.firstField(c) + f] = in.worth();
            plan.fieldType[Plan.firstField(c) + f] = t;
            plan.fields[c]++;
            in.pass();
            in.take(';');
        }

        private void readFun() {
            int k = plan.funs;
            if (k >= Plan.MOST_FUNS) {
                in.stop(Reader.TOO_MANY, in.at);
            }
            in.pass();
            in.need(Words.NAME);
            if (plan.findFun(in.worth()) != NONE) {
                in.stop(Reader.THERE_ALREADY, in.at);
            }
            plan.funName[k] = in.worth();
            plan.funs++;
            in.pass();
            in.take('(');
            in.locals = 0;
            readParameters(k);
            in.take(')');
            due = in.kind() == '{' ? NONE : in.readType(false);
            plan.results[k] = due;
            plan.start[k] = plan.here();
            readBlock(1);
            plan.emit(Plan.END_FUN, 0);
        }

        private void readParameters(int k) {
            plan.params[k] = 0;
            if (in.kind() == ')') {
                return;
            }
            for (int i = 0; i < Words.MOST; i++) {
                int t = in.readType(false);
                in.need(Words.NAME);
                if (plan.params[k] >= Plan.MOST_PARAMS) {
                    in.stop(Reader.TOO_MANY, in.at);
                }
                in.addLocal(in.readLocalName(), t);
                plan.paramType[k * Plan.MOST_PARAMS + plan.params[k]] = t;
                plan.params[k]++;
                if (in.kind() != ',') {
                    break;
                }
                in.pass();
            }
        }

        private void readBlock(int depth) {
            in.need('{');
            if (depth > Reader.MOST_DEPTH) {
                in.stop(Reader.TOO_MANY, in.at);
            }
            in.pass();
            int outside = in.locals;
            for (int i = 0; i < Words.MOST && in.kind() != '}'; i++) {
                readStatement(depth);
            }
            in.take('}');
            in.locals = outside;
        }

        private void readStatement(int depth) {
            int begin = plan.emit(Plan.STEP, 0);
            if (in.beginsType()) {
                readLocal(depth);
                return;
            }
            switch (in.kind()) {
                case Words.NAME:
                    if (in.kindBehind(1) == '(') {
                        readCall(depth);
                    } else {
                        readAssignment(depth);
                    }
                    break;
                case Words.IF:
                    readIf(depth);
                    break;
                case Words.WHILE:
                    readWhile(begin, depth);
                    break;
                case Words.RETURN:
                    readReturn(depth);
                    break;
                case Words.OUT:
                    readOut(depth);
                    break;
                case Words.FAIL:
                    in.pass();
                    es.readFitting(Plan.INT, depth + 1);
                    in.take(';');
                    plan.emit(Plan.FAIL, 0);
                    break;
                case Words.LOCK:
                    readLock(depth);
                    break;
                case Words.SPAWN:
                    readSpawn(depth);
                    break;
                case Words.TRY:
                    readTry(depth);
                    break;
                default:
                    in.stop(Reader.CANT_STAND, in.at);
            }
        }

        private void readLocal(int depth) {
            int t = in.readType(false);
            long name = in.readLocalName();
            in.take('=');
            es.readFitting(t, depth + 1);
            in.take(';');
            emitSetLocal(in.locals, t);
            in.addLocal(name, t);
        }

        private void emitSetLocal(int local, int t) {
            plan.emit(Plan.SET_LOCAL, local << 8 | t);
        }

        private void readCall(int depth) {
            int k = es.readCalled();
            es.readArguments(k, false, depth);
            in.take(';');
            plan.emit(Plan.CALL, k);
            if (plan.results[k] != NONE) {
                plan.emit(Plan.DROP, 0);
            }
        }

        private void readSpawn(int depth) {
            in.pass();
            int k = es.readCalled();
            es.readArguments(k, false, depth);
            in.take(';');
            plan.emit(Plan.SPAWN, k);
        }

        private void readAssignment(int depth) {
            int local = in.findLocal(in.worth());
            int global = plan.findField(Plan.GLOBALS, in.worth());
            if (local == NONE && global == NONE) {
                in.stop(Reader.NONE_THERE, in.at);
            }
            in.pass();
            int get = local != NONE ? Plan.LOCAL : Plan.GLOBAL;
            int which = local != NONE ? local : global;
            int t = local != NONE ? in.localType[local] : plan.fieldType[global];
            boolean locked = false;
            for (int i = 0; i < Words.MOST && (in.kind() == '.' || in.kind() == '['); i++) {
                plan.emit(get, which);
                if (in.kind() == '.') {
                    locked = plan.valueClassOf(t) != NONE;
                    get = Plan.FIELD;
                    which = es.readDot(t);
                    t = plan.fieldType[which];
                } else {
                    locked = false;
                    get = Plan.ELEMENT;
                    es.readIndex(t, depth);
                    t -= Plan.ARRAY;
                }
            }
            in.need('=');
            if (locked) {
                in.stop(Reader.UNFIT, in.at);
            }
            in.pass();
            es.readFitting(t, depth + 1);
            in.take(';');
            emitSet(get, which, t);
        }

        private void emitSet(int get, int which, int t) {
            switch (get) {
                case Plan.LOCAL:
                    emitSetLocal(which, t);
                    break;
                case Plan.GLOBAL:
                    plan.emit(Plan.SET_GLOBAL, which);
                    break;
                case Plan.FIELD:
                    plan.emit(Plan.SET_FIELD, which);
                    break;
                default:
                    plan.emit(Plan.SET_ELEMENT, t);
            }
        }

        private void readIf(int depth) {
            in.pass();
            es.readFitting(Plan.INT, depth + 1);
            int over = plan.emit(Plan.JUMP_IF_NOT, 0);
            readBlock(depth + 1);
            if (in.kind() == Words.ELSE) {
                in.pass();
                int out = plan.emit(Plan.JUMP, 0);
                plan.aimHere(over);
                readBlock(depth + 1);
                plan.aimHere(out);
            } else {
                plan.aimHere(over);
            }
        }

        private void readWhile(int begin, int depth) {
            in.pass();
            es.readFitting(Plan.INT, depth + 1);
            int over = plan.emit(Plan.JUMP_IF_NOT, 0);
            readBlock(depth + 1);
            plan.emit(Plan.JUMP, begin);
            plan.aimHere(over);
        }

        private void readReturn(int depth) {
            int word = in.at;
            in.pass();
            if (in.kind() == ';') {
                if (due != NONE) {
                    in.stop(Reader.UNFIT, word);
                }
                plan.emit(Plan.RETURN, 0);
            } else {
                int first = in.at;
                int t = es.readE(depth + 1);
                if (due == NONE) {
                    in.stop(Reader.UNFIT, word);
                }
                in.fit(due, t, first);
                plan.emit(Plan.RETURN, 1);
            }
            in.take(';');
        }

        private void readOut(int depth) {
            in.pass();
            int first = in.at;
            if (!Plan.isNumber(es.readE(depth + 1))) {
                in.stop(Reader.UNFIT, first);
            }
            in.take(';');
            plan.emit(Plan.OUT, 0);
        }

        private void readLock(int depth) {
            in.pass();
            int first = in.at;
            if (!Plan.isReference(es.readE(depth + 1))) {
                in.stop(Reader.UNFIT, first);
            }
            plan.emit(Plan.LOCK, 0);
            readBlock(depth + 1);
            plan.emit(Plan.CLOSE, 0);
        }

        private void readTry(int depth) {
            in.pass();
            int open = plan.emit(Plan.OPEN_TRY, 0);
            readBlock(depth + 1);
            plan.emit(Plan.CLOSE, 0);
            int out = plan.emit(Plan.JUMP, 0);
            plan.aimHere(open);
            in.take(Words.CATCH);
            int outside = in.locals;
            long name = in.readLocalName();
            emitSetLocal(in.locals, Plan.INT);
            in.addLocal(name, Plan.INT);
            readBlock(depth + 1);
            in.locals = outside;
            plan.aimHere(out);
        }
    }

    /**
     * Floats as their bits, in whole numbers alone: so that a result that is no number has the bits that
     * the document names, and none ever arises here.
     */
    private static final class Floats {
        static final int NO_NUMBER = 0x7fc00000;
        private static final int INFINITE = 0x7f800000;
        private static final int SIGN = 0x80000000;
        private static final int ALL_BUT_SIGN = 0x7fffffff;
        private static final long GREATEST_LONG = 0x7fffffffffffffffL;
        private static final long GREATEST_INT = 0x7fffffffL;
        private static final int LEAST_POWER = -149;

        private Floats() {
        }

        private static boolean isNoNumber(int a) {
            return (a & ALL_BUT_SIGN) > INFINITE;
        }

        private static boolean isInfinite(int a) {
            return (a & ALL_BUT_SIGN) == INFINITE;
        }

        private static boolean isZero(int a) {
            return (a & ALL_BUT_SIGN) == 0;
        }

        private static int sign(int a) {
            return a & SIGN;
        }

        /** What is finite is its whole times two to its power. */
        private static long whole(int a) {
            return (a >>> 23 & 255) == 0 ? a & 0x7fffff : a & 0x7fffff | 0x800000;
        }

        private static int power(int a) {
            return Math.max(a >>> 23 & 255, 1) - 150;
        }

        /** The float nearest to whole (below 2 to the 63rd) times two to the power, of two the even one. */
        private static int nearest(int sign, long whole, int power) {
            if (whole == 0) {
                return sign;
            }
            int bits = 64 - Long.numberOfLeadingZeros(whole);
            int goal = Math.max(power + bits - 24, LEAST_POWER);
            long kept = shifted(whole, goal - power);
            if (kept >= 1L << 24) {
                kept >>= 1;
                goal++;
            }
            if (kept < 1L << 23) {
                return sign | (int) kept;
            }
            int field = goal + 150;
            return field >= 255 ? sign | INFINITE : sign | field << 23 | (int) kept & 0x7fffff;
        }

        private static long shifted(long whole, int right) {
            if (right <= 0) {
                return whole << Math.min(-right, 40);
            }
            if (right > 62) {
                return 0;
            }
            long kept = whole >>> right;
            long rest = whole & (1L << right) - 1;
            long half = 1L << right - 1;
            return rest > half || rest == half && (kept & 1) == 1 ? kept + 1 : kept;
        }

        static int negate(int a) {
            return isNoNumber(a) ? NO_NUMBER : a ^ SIGN;
        }

        static int add(int x, int y) {
            if (isNoNumber(x) || isNoNumber(y) || isInfinite(x) && isInfinite(y) && x != y) {
                return NO_NUMBER;
            }
            if (isInfinite(x) || isInfinite(y)) {
                return isInfinite(x) ? x : y;
            }
            int a = power(x) >= power(y) ? x : y;
            int b = power(x) >= power(y) ? y : x;
            // Of a b that is far below only that it is there matters for the rounding.
            int apart = power(a) - power(b);
            int shift = Math.min(apart, 32);
            long lesser = apart <= 32 ? whole(b) : Math.min(whole(b), 1L);
            long sum = signed(a, whole(a) << shift) + signed(b, lesser);
            if (sum == 0) {
                return sign(a) & sign(b);
            }
            return nearest(sum < 0 ? SIGN : 0, Math.abs(sum), power(a) - shift);
        }

        private static long signed(int a, long whole) {
            return a < 0 ? -whole : whole;
        }

        static int multiply(int a, int b) {
            int sign = sign(a ^ b);
            if (isNoNumber(a) || isNoNumber(b)) {
                return NO_NUMBER;
            }
            if (isInfinite(a) || isInfinite(b)) {
                return isZero(a) || isZero(b) ? NO_NUMBER : sign | INFINITE;
            }
            return nearest(sign, whole(a) * whole(b), power(a) + power(b));
        }

        static int divide(int a, int b) {
            int sign = sign(a ^ b);
            if (isNoNumber(a) || isNoNumber(b) || isInfinite(a) && isInfinite(b) || isZero(a) && isZero(b)) {
                return NO_NUMBER;
            }
            if (isInfinite(a) || isZero(b)) {
                return sign | INFINITE;
            }
            if (isInfinite(b) || isZero(a)) {
                return sign;
            }
            long divisor = Math.max(whole(b), 1L);
            int shift = Long.numberOfLeadingZeros(whole(a)) - 3;
            long above = whole(a) << shift;
            long rest = above % divisor == 0 ? 0 : 1;
            return nearest(sign, above / divisor << 1 | rest, power(a) - shift - power(b) - 1);
        }

        static boolean less(int a, int b) {
            return !isNoNumber(a) && !isNoNumber(b) && rank(a) < rank(b);
        }

        static boolean equal(int a, int b) {
            return !isNoNumber(a) && !isNoNumber(b) && rank(a) == rank(b);
        }

        private static int rank(int a) {
            return a < 0 ? -(a & ALL_BUT_SIGN) : a;
        }

        static int fromLong(long v) {
            int sign = v < 0 ? SIGN : 0;
            long size = v < 0 ? -v : v;
            if (size < 0) {
                return nearest(sign, size >>> 1, 1);
            }
            return nearest(sign, size, 0);
        }

        static long toLong(int a) {
            if (isNoNumber(a)) {
                return 0;
            }
            int power = power(a);
            if (power > 39) {
                return a < 0 ? -GREATEST_LONG - 1 : GREATEST_LONG;
            }
            return signed(a, power >= 0 ? whole(a) << power : power < -24 ? 0 : whole(a) >>> -power);
        }

        static int toInt(int a) {
            return (int) Math.max(-GREATEST_INT - 1, Math.min(GREATEST_INT, toLong(a)));
        }
    }

    /** Where all parts are by the POLICY. */
    private static final class Layout {
        static final int NUMBER = 0;
        static final int REFERENCE = 1;
        static final int FLAT = 2;
        static final int GUARDED = 3;
        private static final int IN_VALUE = 0;
        private static final int IN_OBJECT = 1;
        private static final int IN_ARRAY = 2;

        private final Plan plan;
        private int most;
        private int bits;
        private int parts;
        final int[] place;
        final int[] bytes;
        final int[] how;
        final int[] mark;
        final int[] payload;
        private final int[] alignment;
        private final int[] cells;
        final int[] funWords;

        Layout(Plan plan) {
            this.plan = plan;
            int slots = Plan.MOST_CLASSES * Plan.MOST_FIELDS + Plan.MOST_GLOBALS;
            place = new int[slots];
            bytes = new int[slots];
            how = new int[slots];
            mark = new int[slots];
            payload = new int[Plan.MOST_CLASSES + 1];
            alignment = new int[Plan.MOST_CLASSES + 1];
            cells = new int[Plan.MOST_CLASSES];
            funWords = new int[Plan.MOST_FUNS];
        }

        void choose(int newMost, int newBits, int newParts) {
            most = newMost;
            bits = newBits;
            parts = newParts;
        }

        /** A CLASS has FIELDS only of itself and of those ahead of it: so they are laid out in order. */
        void arrange() {
            for (int c = 0; c < plan.classes; c++) {
                arrangeClass(c, plan.valued[c] ? IN_VALUE : IN_OBJECT);
                cells[c] = countCells(c);
            }
            arrangeClass(Plan.GLOBALS, IN_OBJECT);
            for (int k = 0; k < plan.funs; k++) {
                funWords[k] = countWords(k);
            }
        }

        private void arrangeClass(int c, int where) {
            int at = 0;
            int greatest = 1;
            for (int align = 8; align >= 1; align /= 2) {
                for (int f = 0; f < plan.fields[c]; f++) {
                    int i = Plan.firstField(c) + f;
                    int t = plan.fieldType[i];
                    how[i] = howOf(t, where);
                    if (alignmentOf(t, how[i]) == align) {
                        place[i] = filledUp(at, align);
                        bytes[i] = bytesOf(t, how[i]);
                        mark[i] = markOf(t, how[i]);
                        at = place[i] + bytes[i];
                        greatest = Math.max(greatest, align);
                    }
                }
            }
            alignment[c] = greatest;
            payload[c] = filledUp(at, greatest);
        }

        private int countCells(int c) {
            if (!plan.valued[c] || plan.ring[c]) {
                return 0;
            }
            int sum = 0;
            for (int f = 0; f < plan.fields[c]; f++) {
                int t = plan.fieldType[Plan.firstField(c) + f];
                int v = plan.valueClassOf(t);
                sum += v == NONE || plan.ring[v] ? 1 : cells[v] + (Plan.isNeverNull(t) ? 0 : 1);
            }
            return sum;
        }

        private static int filledUp(int n, int to) {
            return to < 1 ? n : (n + to - 1) / to * to;
        }

        /** How a SLOT is that stands there. */
        private int howOf(int t, int where) {
            if (Plan.isNumber(t)) {
                return NUMBER;
            }
            int v = plan.valueClassOf(t);
            if (v == NONE || plan.ring[v]) {
                return REFERENCE;
            }
            int many = flatBytes(t, v);
            boolean guarded = many > 8 && where != IN_VALUE;
            boolean flat = many >= 1 && many <= most && (Plan.isNeverNull(t) || (bits & 1) != 0)
                    && (where != IN_ARRAY || (bits & 2) != 0) && (!guarded || (bits & 4) != 0);
            return !flat ? REFERENCE : guarded ? GUARDED : FLAT;
        }

        private int flatBytes(int t, int v) {
            return Plan.isNeverNull(t) ? payload[v] : filledUp(payload[v] + 1, alignment[v]);
        }

        private int bytesOf(int t, int asHow) {
            if (asHow >= FLAT) {
                return flatBytes(t, Plan.classOf(t));
            }
            return t == Plan.BYTE ? 1 : t == Plan.LONG ? 8 : 4;
        }

        private int alignmentOf(int t, int asHow) {
            return asHow >= FLAT ? alignment[Plan.classOf(t)] : bytesOf(t, asHow);
        }

        private int markOf(int t, int asHow) {
            return asHow >= FLAT && !Plan.isNeverNull(t) ? payload[Plan.classOf(t)] : NONE;
        }

        int ofClass(int c, int what) {
            switch (what) {
                case 0: return plan.valued[c] ? 1 : 0;
                case 1: return plan.fields[c];
                case 2: return payload[c];
                case 3: return alignment[c];
                case 4: return cells[c];
                case 5: return goesInCells(c) ? 1 : 0;
                default: return NONE;
            }
        }

        int ofField(int c, int f, int what) {
            if (f < 0 || f >= plan.fields[c]) {
                return NONE;
            }
            int i = Plan.firstField(c) + f;
            switch (what) {
                case 0: return place[i];
                case 1: return bytes[i];
                case 2: return how[i];
                case 3: return mark[i];
                default: return NONE;
            }
        }

        int ofElement(int code, int what) {
            int asHow = howOf(code, IN_ARRAY);
            switch (what) {
                case 1: return bytesOf(code, asHow);
                case 2: return asHow;
                case 3: return markOf(code, asHow);
                default: return NONE;
            }
        }

        private boolean goesInCells(int c) {
            return plan.valued[c] && !plan.ring[c] && cells[c] <= parts;
        }

        private int countWords(int k) {
            int sum = plan.results[k] == NONE ? 0 : wordsOfType(plan.results[k]);
            for (int p = 0; p < plan.params[k]; p++) {
                sum += wordsOfType(plan.paramType[k * Plan.MOST_PARAMS + p]);
            }
            return sum;
        }

        private int wordsOfType(int t) {
            int v = plan.valueClassOf(t);
            return v == NONE || !goesInCells(v) ? 1 : cells[v] + (Plan.isNeverNull(t) ? 0 : 1);
        }
    }

    /**
     * All that a run makes, known by numbers: 0 null, then objects and arrays as they are made, then values,
     * last the GLOBALS. What is in them stands in one row of cells.
     */
    private static final class Heap {
        static final int MOST_THINGS = 200;
        static final int MOST_ELEMENTS = 600;
        static final int MOST_VALUES = 1000;
        static final int GLOBALS = MOST_THINGS + MOST_VALUES + 1;
        static final int OF_ARRAY = 256;
        private static final int MOST_WEIGHT = 40;

        private final Plan plan;
        int things;
        int elements;
        int values;
        int hashes;
        private int used;
        private final int[] kind;
        private final int[] start;
        private final int[] length;
        private final int[] weight;
        private final int[] hash;
        private final int[] holder;
        private final int[] holds;
        private final long[] cells;

        Heap(Plan plan) {
            this.plan = plan;
            kind = new int[GLOBALS + 1];
            start = new int[GLOBALS + 1];
            length = new int[GLOBALS + 1];
            weight = new int[GLOBALS + 1];
            hash = new int[MOST_THINGS + 1];
            holder = new int[MOST_THINGS + 1];
            holds = new int[MOST_THINGS + 1];
            cells = new long[Plan.MOST_GLOBALS + (MOST_THINGS + MOST_VALUES) * Plan.MOST_FIELDS + MOST_ELEMENTS];
        }

        void clear() {
            things = 0;
            elements = 0;
            values = 0;
            hashes = 0;
            used = 0;
            Arrays.fill(hash, 0);
            Arrays.fill(holder, 0);
            Arrays.fill(holds, 0);
            Arrays.fill(cells, 0L);
            take(GLOBALS, Plan.GLOBALS, plan.fields[Plan.GLOBALS]);
        }

        private void take(int h, int ofKind, int many) {
            kind[h] = ofKind;
            length[h] = many;
            start[h] = used;
            used += many;
        }

        static boolean isThing(int h) {
            return h >= 1 && h <= MOST_THINGS;
        }

        static boolean isValue(int h) {
            return h > MOST_THINGS && h < GLOBALS;
        }

        /** A CLASS's number, of an ARRAY 256 and its element's CODE; of null NONE. */
        int kindOf(int h) {
            return h > 0 && h <= GLOBALS ? kind[h] : NONE;
        }

        /** How many cells are its own. */
        int lengthOf(int h) {
            return h > 0 && h <= GLOBALS ? length[h] : 0;
        }

        private boolean has(int h, int i) {
            return h > 0 && h <= GLOBALS && i >= 0 && i < length[h];
        }

        long cell(int h, int i) {
            return has(h, i) ? cells[start[h] + i] : 0L;
        }

        void setCell(int h, int i, long v) {
            if (has(h, i)) {
                cells[start[h] + i] = v;
            }
        }

        /** Whether there is room for one more object, or array of so many elements. */
        boolean hasRoom(int many) {
            return things < MOST_THINGS && many >= 0 && many <= MOST_ELEMENTS - elements;
        }

        boolean hasRoomForValue() {
            return values < MOST_VALUES;
        }

        int makeObject(int c) {
            things++;
            take(things, c, plan.fields[c]);
            return things;
        }

        int makeArray(int code, int many) {
            things++;
            elements += many;
            take(things, OF_ARRAY + code, many);
            return things;
        }

        int makeValue(int c, int heavy) {
            values++;
            int h = MOST_THINGS + values;
            take(h, c, plan.fields[c]);
            weight[h] = heavy;
            return h;
        }

        /** What a FIELD with this in it adds to the WEIGHT. */
        int weightIn(int field, long v) {
            int h = (int) v;
            return Plan.isReference(plan.fieldType[field]) && isValue(h) ? weight[h] : 0;
        }

        static boolean isTooHeavy(int w) {
            return w > MOST_WEIGHT;
        }

        /** The WEIGHT keeps low how deep values are in one another. */
        boolean same(int a, int b, int depth) {
            if (a == b) {
                return true;
            }
            if (!isValue(a) || !isValue(b) || kind[a] != kind[b] || depth > MOST_WEIGHT) {
                return false;
            }
            for (int f = 0; f < length[a]; f++) {
                long x = cell(a, f);
                long y = cell(b, f);
                boolean reference = Plan.isReference(plan.fieldType[Plan.firstField(kind[a]) + f]);
                if (reference ? !same((int) x, (int) y, depth + 1) : x != y) {
                    return false;
                }
            }
            return true;
        }

        int hashOf(int h, int depth) {
            if (isThing(h)) {
                if (hash[h] == 0) {
                    hashes++;
                    hash[h] = hashes;
                }
                return hash[h];
            }
            if (!isValue(h) || depth > MOST_WEIGHT) {
                return 0;
            }
            int sum = kind[h] + 7;
            for (int f = 0; f < length[h]; f++) {
                int t = plan.fieldType[Plan.firstField(kind[h]) + f];
                long v = cell(h, f);
                sum = 31 * sum + (Plan.isReference(t) ? hashOf((int) v, depth + 1)
                        : t == Plan.LONG ? (int) (v ^ v >>> 32) : (int) v);
            }
            return sum;
        }

        /** Locks are held by a thread's number and 1. */
        boolean isFree(int h) {
            return !isThing(h) || holder[h] == 0;
        }

        boolean takeLock(int h, int by) {
            if (!isThing(h) || holder[h] != 0 && holder[h] != by) {
                return false;
            }
            holder[h] = by;
            holds[h]++;
            return true;
        }

        void giveLock(int h) {
            if (h > 0 && h <= MOST_THINGS && holds[h] > 0) {
                holds[h]--;
                if (holds[h] == 0) {
                    holder[h] = 0;
                }
            }
        }
    }

    /** One guest thread: its stack, its frames, and the trys and locks that are open in it. */
    private static final class Strand {
        static final int GOING = 0;
        static final int OVER = 2;
        static final int FAILED = 3;
        static final int MOST_FRAMES = 30;
        private static final int MOST_STACK = 8192;
        private static final int MOST_GUARDS = MOST_FRAMES * (Reader.MOST_DEPTH + 1);

        int state;
        int failure;
        int at;
        /** The object or array whose lock it wants; 0 if none. */
        int wants;
        int frames;
        int base;
        private long[] stack;
        private int top;
        private final int[] frameBase;
        private final int[] frameBack;
        private final int[] frameFun;
        private final int[] frameGuards;
        private int guards;
        private int[] guardHandler;
        private int[] guardSubject;

        Strand() {
            stack = new long[128];
            frameBase = new int[MOST_FRAMES];
            frameBack = new int[MOST_FRAMES];
            frameFun = new int[MOST_FRAMES];
            frameGuards = new int[MOST_FRAMES];
            guardHandler = new int[16];
            guardSubject = new int[16];
        }

        void clear() {
            state = GOING;
            failure = 0;
            at = 0;
            wants = 0;
            frames = 0;
            base = 0;
            top = 0;
            guards = 0;
        }

        void push(long v) {
            makeRoom(1);
            if (top < stack.length) {
                stack[top] = v;
                top++;
            }
        }

        long pop() {
            if (top <= 0) {
                return 0L;
            }
            top--;
            return stack[top];
        }

        /** What stands so far below the top: 0 is the top itself. */
        long peek(int below) {
            int i = top - 1 - below;
            return i >= 0 && i < stack.length ? stack[i] : 0L;
        }

        private void makeRoom(int many) {
            if (top + many > stack.length && stack.length < MOST_STACK) {
                stack = Arrays.copyOf(stack, stack.length * 2);
            }
        }

        long local(int i) {
            return base + i >= 0 && base + i < stack.length ? stack[base + i] : 0L;
        }

        void setLocal(int i, long v) {
            if (base + i >= 0 && base + i < stack.length) {
                stack[base + i] = v;
            }
        }

        /** A frame whose first locals are the so many that are on top of the stack. */
        void enter(int k, int given, int start) {
            if (frames >= MOST_FRAMES) {
                return;
            }
            makeRoom(Reader.MOST_LOCALS + 1);
            base = Math.max(top - given, 0);
            top = base + Reader.MOST_LOCALS;
            frameBase[frames] = base;
            frameBack[frames] = at;
            frameFun[frames] = k;
            frameGuards[frames] = guards;
            frames++;
            at = start;
        }

        void leave() {
            if (frames <= 0) {
                return;
            }
            frames--;
            top = base;
            at = frameBack[frames];
            base = frames > 0 ? frameBase[frames - 1] : 0;
        }

        int currentFun() {
            return frames > 0 ? frameFun[frames - 1] : 0;
        }

        /** Whether a try or a lock is open in the frame. */
        boolean hasGuard() {
            return frames > 0 && guards > frameGuards[frames - 1];
        }

        /** A try has a handler, a lock (which has none) a subject. */
        void pushGuard(int handler, int subject) {
            if (guards >= guardHandler.length && guards < MOST_GUARDS) {
                guardHandler = Arrays.copyOf(guardHandler, guards * 2);
                guardSubject = Arrays.copyOf(guardSubject, guards * 2);
            }
            if (guards < guardHandler.length) {
                guardHandler[guards] = handler;
                guardSubject[guards] = subject;
                guards++;
            }
        }

        int topHandler() {
            return guards > 0 ? guardHandler[guards - 1] : NONE;
        }

        /** The subject, 0 of a try. */
        int popGuard() {
            if (guards <= 0) {
                return 0;
            }
            guards--;
            return guardSubject[guards];
        }

        /** On with the catch of a try: nothing but the locals and the FAILURE is left in the frame. */
        void caught(int handler, int code) {
            top = base + Reader.MOST_LOCALS;
            if (top < stack.length) {
                stack[top] = code;
                top++;
            }
            at = handler;
        }
    }

    /** Makes a RUN: gives STEPS to threads and does what the code says. */
    private static final class Machine {
        private static final int MOST_THREADS = 6;
        private static final int KEPT = 100;
        private static final int FAR = 1000000;
        private static final int IS_NULL = 1;
        private static final int BY_ZERO = 2;
        private static final int NO_INDEX = 3;
        private static final int LOCKED_VALUE = 4;
        private static final int OTHER_TYPE = 5;
        private static final int NO_ROOM = 6;
        private static final int HEAVY = 7;
        private static final int TOO_DEEP = 8;

        private final Plan plan;
        private final Layout layout;
        private final Heap heap;
        private final Strand[] strands;
        private final long[] kept;
        private int threads;
        private int how;
        private int steps;
        private int outs;
        private int wordsMade;
        private int mostFrames;

        Machine(Plan plan, Layout layout, Heap heap) {
            this.plan = plan;
            this.layout = layout;
            this.heap = heap;
            kept = new long[KEPT];
            strands = new Strand[MOST_THREADS];
            for (int i = 0; i < MOST_THREADS; i++) {
                strands[i] = new Strand();
            }
        }

        int execute(int k, int seed, int limit) {
            heap.clear();
            threads = 0;
            outs = 0;
            wordsMade = 0;
            mostFrames = 0;
            strands[0].clear();
            startThread(strands[0], k);
            int r = seed;
            int ready = countReady();
            for (steps = 0; steps < limit && ready > 0; steps++) {
                r = r * 1103515245 + 12345;
                goStep(readyOne((r >>> 16) % ready));
                ready = countReady();
            }
            how = ready > 0 ? 2 : countGoing() > 0 ? 1 : 0;
            return how;
        }

        /** What comes to the parameters stands on the stack of s. */
        private void startThread(Strand s, int k) {
            threads++;
            s.enter(k, plan.params[k], plan.start[k]);
            narrowParameters(s, k);
            mostFrames = Math.max(mostFrames, 1);
            if (plan.opAt(s.at) == Plan.END_FUN) {
                // Without STATEMENTS it has no STEP in which it could come to its end.
                boolean failed = Plan.isNeverNull(plan.results[k]);
                s.leave();
                s.state = failed ? Strand.FAILED : Strand.OVER;
                s.failure = failed ? IS_NULL : 0;
            }
        }

        private boolean isReady(Strand s) {
            return s.state == Strand.GOING && (s.wants == 0 || heap.isFree(s.wants));
        }

        private int countReady() {
            int ready = 0;
            for (int t = 0; t < threads; t++) {
                ready += isReady(strands[t]) ? 1 : 0;
            }
            return ready;
        }

        private int countGoing() {
            int going = 0;
            for (int t = 0; t < threads; t++) {
                going += strands[t].state == Strand.GOING ? 1 : 0;
            }
            return going;
        }

        private int readyOne(int k) {
            int before = 0;
            for (int t = 0; t < threads; t++) {
                if (isReady(strands[t])) {
                    if (before == k) {
                        return t;
                    }
                    before++;
                }
            }
            return 0;
        }

        private void goStep(int t) {
            Strand s = strands[t];
            s.wants = 0;
            if (plan.opAt(s.at) == Plan.STEP) {
                s.at++;
            }
            for (int i = 0; i < FAR && s.state == Strand.GOING && s.wants == 0; i++) {
                int op = plan.opAt(s.at);
                int arg = plan.argAt(s.at);
                if (op == Plan.STEP) {
                    break;
                }
                s.at++;
                if (op < Plan.PUSH) {
                    flow(s, op, arg, t + 1);
                } else if (op <= Plan.SAME) {
                    data(s, op, arg);
                } else if (op < Plan.NOT) {
                    making(s, op, arg);
                } else {
                    reckon(s, op, arg);
                }
            }
        }

        private void flow(Strand s, int op, int arg, int holder) {
            switch (op) {
                case Plan.JUMP:
                    s.at = arg;
                    break;
                case Plan.JUMP_IF_NOT:
                    if (s.pop() == 0) {
                        s.at = arg;
                    }
                    break;
                case Plan.CALL:
                    call(s, arg);
                    break;
                case Plan.SPAWN:
                    spawn(s, arg);
                    break;
                case Plan.RETURN:
                    giveBack(s, arg == 1);
                    break;
                case Plan.END_FUN:
                    endFun(s);
                    break;
                case Plan.OPEN_TRY:
                    s.pushGuard(arg, 0);
                    break;
                case Plan.CLOSE:
                    heap.giveLock(s.popGuard());
                    break;
                case Plan.LOCK:
                    lock(s, holder);
                    break;
                case Plan.FAIL:
                    fail(s, (int) s.pop());
                    break;
                case Plan.OUT:
                    putOutOne(s.pop());
                    break;
                default:
                    s.pop();
            }
        }

        private void fail(Strand s, int code) {
            for (int i = 0; i < FAR && s.frames > 0; i++) {
                if (s.hasGuard()) {
                    int handler = s.topHandler();
                    heap.giveLock(s.popGuard());
                    if (handler != NONE) {
                        s.caught(handler, code);
                        return;
                    }
                } else {
                    s.leave();
                }
            }
            s.state = Strand.FAILED;
            s.failure = code;
        }

        private static boolean isNullFor(int t, long v) {
            return v == 0 && Plan.isNeverNull(t);
        }

        private static long into(int t, long v) {
            return t == Plan.BYTE ? (byte) v : v;
        }

        /** Whether null came to a parameter with !. */
        private boolean hasNullArgument(Strand s, int k) {
            int many = plan.params[k];
            for (int p = 0; p < many; p++) {
                if (isNullFor(plan.paramType[k * Plan.MOST_PARAMS + p], s.peek(many - 1 - p))) {
                    return true;
                }
            }
            return false;
        }

        private void call(Strand s, int k) {
            if (hasNullArgument(s, k)) {
                fail(s, IS_NULL);
            } else if (s.frames >= Strand.MOST_FRAMES) {
                fail(s, TOO_DEEP);
            } else {
                s.enter(k, plan.params[k], plan.start[k]);
                narrowParameters(s, k);
                wordsMade += layout.funWords[k];
                mostFrames = Math.max(mostFrames, s.frames);
            }
        }

        private void narrowParameters(Strand s, int k) {
            for (int p = 0; p < plan.params[k]; p++) {
                s.setLocal(p, into(plan.paramType[k * Plan.MOST_PARAMS + p], s.local(p)));
            }
        }

        private void spawn(Strand s, int k) {
            if (hasNullArgument(s, k)) {
                fail(s, IS_NULL);
            } else if (threads >= MOST_THREADS) {
                fail(s, TOO_DEEP);
            } else {
                Strand other = strands[threads];
                int many = plan.params[k];
                other.clear();
                for (int p = 0; p < many; p++) {
                    other.push(s.peek(many - 1 - p));
                }
                for (int p = 0; p < many; p++) {
                    s.pop();
                }
                wordsMade += layout.funWords[k];
                startThread(other, k);
            }
        }

        private void giveBack(Strand s, boolean given) {
            int due = plan.results[s.currentFun()];
            long v = given ? s.pop() : 0L;
            if (given && isNullFor(due, v)) {
                fail(s, IS_NULL);
                return;
            }
            for (int i = 0; i < FAR && s.hasGuard(); i++) {
                heap.giveLock(s.popGuard());
            }
            s.leave();
            if (s.frames == 0) {
                s.state = Strand.OVER;
            } else if (due != NONE) {
                s.push(into(due, v));
            }
        }

        private void endFun(Strand s) {
            if (Plan.isNeverNull(plan.results[s.currentFun()])) {
                fail(s, IS_NULL);
            } else {
                giveBack(s, false);
            }
        }

        private void lock(Strand s, int holder) {
            int h = (int) s.peek(0);
            if (h == 0) {
                fail(s, IS_NULL);
            } else if (Heap.isValue(h)) {
                fail(s, LOCKED_VALUE);
            } else if (heap.takeLock(h, holder)) {
                s.pop();
                s.pushGuard(NONE, h);
            } else {
                // The object stays on the stack, so that its E is not worked out again.
                s.wants = h;
                s.at--;
            }
        }

        private void putOutOne(long v) {
            if (outs < KEPT) {
                kept[outs] = v;
            }
            outs++;
        }

        private void data(Strand s, int op, int arg) {
            switch (op) {
                case Plan.PUSH:
                    s.push(arg);
                    break;
                case Plan.LOCAL:
                    s.push(s.local(arg));
                    break;
                case Plan.SET_LOCAL:
                    setLocal(s, arg >> 8, arg & 255);
                    break;
                case Plan.GLOBAL:
                    s.push(heap.cell(Heap.GLOBALS, arg - Plan.firstField(Plan.GLOBALS)));
                    break;
                case Plan.SET_GLOBAL:
                    heap.setCell(Heap.GLOBALS, arg - Plan.firstField(Plan.GLOBALS), into(plan.fieldType[arg], s.pop()));
                    break;
                case Plan.FIELD:
                    field(s, arg % Plan.MOST_FIELDS);
                    break;
                case Plan.SET_FIELD:
                    setField(s, arg);
                    break;
                case Plan.ELEMENT:
                    readElement(s);
                    break;
                case Plan.SET_ELEMENT:
                    setElement(s, arg);
                    break;
                case Plan.LENGTH:
                    length(s);
                    break;
                case Plan.HASH:
                    s.push(heap.hashOf((int) s.pop(), 0));
                    break;
                case Plan.IS:
                    s.push(heap.kindOf((int) s.pop()) == arg ? 1 : 0);
                    break;
                case Plan.AS:
                    as(s, arg);
                    break;
                default:
                    int right = (int) s.pop();
                    s.push(heap.same((int) s.pop(), right, 0) ? 1 : 0);
            }
        }

        private void setLocal(Strand s, int local, int t) {
            long v = s.pop();
            if (isNullFor(t, v)) {
                fail(s, IS_NULL);
            } else {
                s.setLocal(local, into(t, v));
            }
        }

        private void field(Strand s, int f) {
            int h = (int) s.pop();
            if (h == 0) {
                fail(s, IS_NULL);
            } else {
                s.push(heap.cell(h, f));
            }
        }

        private void setField(Strand s, int field) {
            long v = s.pop();
            int h = (int) s.pop();
            int t = plan.fieldType[field];
            if (h == 0 || isNullFor(t, v)) {
                fail(s, IS_NULL);
            } else {
                heap.setCell(h, field % Plan.MOST_FIELDS, into(t, v));
            }
        }

        private void readElement(Strand s) {
            int i = (int) s.pop();
            int h = (int) s.pop();
            if (h == 0) {
                fail(s, IS_NULL);
            } else if (i < 0 || i >= heap.lengthOf(h)) {
                fail(s, NO_INDEX);
            } else {
                s.push(heap.cell(h, i));
            }
        }

        private void setElement(Strand s, int t) {
            long v = s.pop();
            int i = (int) s.pop();
            int h = (int) s.pop();
            if (h == 0) {
                fail(s, IS_NULL);
            } else if (i < 0 || i >= heap.lengthOf(h)) {
                fail(s, NO_INDEX);
            } else if (isNullFor(t, v)) {
                fail(s, IS_NULL);
            } else {
                heap.setCell(h, i, into(t, v));
            }
        }

        private void length(Strand s) {
            int h = (int) s.pop();
            if (h == 0) {
                fail(s, IS_NULL);
            } else {
                s.push(heap.lengthOf(h));
            }
        }

        private void as(Strand s, int t) {
            int h = (int) s.peek(0);
            int kind = Plan.isArray(t) ? Heap.OF_ARRAY + t - Plan.ARRAY : Plan.classOf(t);
            if (isNullFor(t, h)) {
                fail(s, IS_NULL);
            } else if (h != 0 && t != Plan.ANY && heap.kindOf(h) != kind) {
                fail(s, OTHER_TYPE);
            }
        }

        private void making(Strand s, int op, int arg) {
            switch (op) {
                case Plan.WITH:
                    makeWith(s, arg);
                    break;
                case Plan.NEW:
                    makeNew(s, arg);
                    break;
                case Plan.NEW_ARRAY:
                    makeArray(s, arg, 0L);
                    break;
                default:
                    makeArray(s, arg, s.pop());
            }
        }

        /** What comes to the FIELDS stands on the stack. */
        private void makeNew(Strand s, int c) {
            int many = plan.fields[c];
            int first = Plan.firstField(c);
            int weight = 1;
            for (int f = 0; f < many; f++) {
                long v = s.peek(many - 1 - f);
                if (isNullFor(plan.fieldType[first + f], v)) {
                    fail(s, IS_NULL);
                    return;
                }
                weight += heap.weightIn(first + f, v);
            }
            if (plan.valued[c] && Heap.isTooHeavy(weight)) {
                fail(s, HEAVY);
            } else if (plan.valued[c] ? !heap.hasRoomForValue() : !heap.hasRoom(0)) {
                fail(s, NO_ROOM);
            } else {
                int h = plan.valued[c] ? heap.makeValue(c, weight) : heap.makeObject(c);
                for (int f = many - 1; f >= 0; f--) {
                    heap.setCell(h, f, into(plan.fieldType[first + f], s.pop()));
                }
                s.push(h);
            }
        }

        /** As new with all FIELDS of the old value but one. */
        private void makeWith(Strand s, int field) {
            long v = s.pop();
            int old = (int) s.pop();
            if (old == 0) {
                fail(s, IS_NULL);
                return;
            }
            int c = field / Plan.MOST_FIELDS;
            for (int f = 0; f < plan.fields[c]; f++) {
                s.push(Plan.firstField(c) + f == field ? v : heap.cell(old, f));
            }
            makeNew(s, c);
        }

        private void makeArray(Strand s, int code, long each) {
            int many = (int) s.pop();
            if (many < 0) {
                fail(s, NO_INDEX);
            } else if (isNullFor(code, each)) {
                fail(s, IS_NULL);
            } else if (!heap.hasRoom(many)) {
                fail(s, NO_ROOM);
            } else {
                int h = heap.makeArray(code, many);
                for (int i = 0; i < many; i++) {
                    heap.setCell(h, i, each);
                }
                s.push(h);
            }
        }

        private void reckon(Strand s, int op, int t) {
            if (op == Plan.NOT) {
                s.push(s.pop() == 0 ? 1 : 0);
            } else if (op == Plan.NEGATE) {
                long v = s.pop();
                s.push(t == Plan.FLOAT ? Floats.negate((int) v) : t == Plan.LONG ? -v : -(int) v);
            } else if (op == Plan.CAST) {
                s.push(cast(s.pop(), t / 4, t % 4));
            } else {
                long right = s.pop();
                long left = s.pop();
                if ((op == Plan.DIVIDE || op == Plan.REMAINDER) && t != Plan.FLOAT && right == 0) {
                    fail(s, BY_ZERO);
                } else if (t == Plan.FLOAT) {
                    s.push(ofFloats(op, (int) left, (int) right));
                } else {
                    long whole = ofWholes(op, left, right);
                    s.push(t == Plan.LONG ? whole : (int) whole);
                }
            }
        }

        private static long cast(long v, int from, int to) {
            if (to == Plan.FLOAT) {
                return from == Plan.FLOAT ? v : Floats.fromLong(v);
            }
            if (to == Plan.LONG) {
                return from == Plan.FLOAT ? Floats.toLong((int) v) : v;
            }
            int whole = from == Plan.FLOAT ? Floats.toInt((int) v) : (int) v;
            return to == Plan.BYTE ? (byte) whole : whole;
        }

        private static long ofWholes(int op, long left, long right) {
            switch (op) {
                case Plan.EQUAL: return left == right ? 1 : 0;
                case Plan.LESS: return left < right ? 1 : 0;
                case Plan.ADD: return left + right;
                case Plan.SUBTRACT: return left - right;
                case Plan.MULTIPLY: return left * right;
                case Plan.DIVIDE: return right == 0 ? 0 : left / right;
                default: return right == 0 ? 0 : left % right;
            }
        }

        private static int ofFloats(int op, int left, int right) {
            switch (op) {
                case Plan.EQUAL: return Floats.equal(left, right) ? 1 : 0;
                case Plan.LESS: return Floats.less(left, right) ? 1 : 0;
                case Plan.ADD: return Floats.add(left, right);
                case Plan.SUBTRACT: return Floats.add(left, Floats.negate(right));
                case Plan.MULTIPLY: return Floats.multiply(left, right);
                default: return Floats.divide(left, right);
            }
        }

        int told(int what) {
            switch (what) {
                case 0: return how;
                case 1: return steps;
                case 2: return threads;
                case 3: return outs;
                case 4: return heap.things;
                case 5: return heap.elements;
                case 6: return heap.values;
                case 7: return wordsMade;
                case 8: return mostFrames;
                case 9: return heap.hashes;
                default: return NONE;
            }
        }

        long putOut(int i) {
            return i >= 0 && i < KEPT && i < outs ? kept[i] : 0L;
        }

        int ofThread(int t, int what) {
            if (t < 0 || t >= threads) {
                return NONE;
            }
            Strand s = strands[t];
            switch (what) {
                case 0: return s.state != Strand.GOING ? s.state : isReady(s) ? 0 : 1;
                case 1: return s.failure;
                case 2: return s.frames;
                default: return NONE;
            }
        }
    }

    /**
     * THE IMAGE. It is gone over twice alike: once to know the places of objects and arrays and the size,
     * then to write the bytes.
     */
    private static final class Picture {
        private static final int MOST_BYTES = 60000;
        private static final int HEAD = 8;
        private static final int MOST_NESTED = 45;

        private final Plan plan;
        private final Layout layout;
        private final Heap heap;
        private final int[] place;
        private final boolean[] reached;
        private final int[] queue;
        private int queued;
        private byte[] bytes;
        private boolean writing;
        private int free;
        private int size;

        Picture(Plan plan, Layout layout, Heap heap) {
            this.plan = plan;
            this.layout = layout;
            this.heap = heap;
            place = new int[Heap.MOST_THINGS + 1];
            reached = new boolean[Heap.MOST_THINGS + 1];
            queue = new int[Heap.MOST_THINGS + 1];
            bytes = new byte[1024];
        }

        void forget() {
            size = 0;
        }

        int at(int i) {
            return i >= 0 && i < size ? bytes[i] & 255 : NONE;
        }

        int make() {
            size = 0;
            findReached();
            writing = false;
            int many = goOver();
            if (many > MOST_BYTES) {
                return NONE;
            }
            makeRoom(many);
            writing = true;
            goOver();
            size = many;
            return many;
        }

        private void makeRoom(int many) {
            if (many > bytes.length) {
                bytes = new byte[Math.min(MOST_BYTES, Math.max(many, bytes.length * 2))];
            } else {
                Arrays.fill(bytes, (byte) 0);
            }
        }

        private void findReached() {
            for (int h = 0; h < reached.length; h++) {
                reached[h] = false;
            }
            queued = 0;
            reachFrom(Heap.GLOBALS, 0);
            for (int i = 0; i < queued; i++) {
                reachFrom(queue[i], 0);
            }
        }

        private void reachFrom(int h, int depth) {
            int kind = heap.kindOf(h);
            for (int i = 0; i < heap.lengthOf(h) && depth < MOST_NESTED; i++) {
                int t = kind >= Heap.OF_ARRAY ? kind - Heap.OF_ARRAY : plan.fieldType[Plan.firstField(kind) + i];
                if (Plan.isReference(t)) {
                    reach((int) heap.cell(h, i), depth);
                }
            }
        }

        private void reach(int h, int depth) {
            if (Heap.isValue(h)) {
                reachFrom(h, depth + 1);
            } else if (Heap.isThing(h) && !reached[h]) {
                reached[h] = true;
                queue[queued] = h;
                queued++;
            }
        }

        private static int filledUp(int n) {
            return (n + 7) / 8 * 8;
        }

        /** How many bytes it has. */
        private int goOver() {
            free = HEAD + layout.payload[Plan.GLOBALS];
            layFields(Heap.GLOBALS, HEAD, 0);
            for (int h = 1; h <= heap.things; h++) {
                if (reached[h]) {
                    place[h] = filledUp(free);
                    lay(h, place[h], 0);
                }
            }
            return filledUp(free);
        }

        /** An object, array or value at a place, and behind it what is its own. */
        private void lay(int h, int at, int depth) {
            int kind = heap.kindOf(h);
            write(at, 2, kind);
            if (kind < Heap.OF_ARRAY) {
                free = at + HEAD + layout.payload[kind];
                layFields(h, at + HEAD, depth);
                return;
            }
            int code = kind - Heap.OF_ARRAY;
            int many = heap.lengthOf(h);
            int each = layout.ofElement(code, 1);
            int how = layout.ofElement(code, 2);
            int mark = layout.ofElement(code, 3);
            write(at + 4, 4, many);
            free = at + HEAD + many * each;
            for (int i = 0; i < many; i++) {
                laySlot(heap.cell(h, i), at + HEAD + i * each, how, each, mark, depth);
            }
        }

        private void layFields(int h, int at, int depth) {
            int kind = heap.kindOf(h);
            for (int f = 0; f < plan.fields[kind] && depth < MOST_NESTED; f++) {
                int i = Plan.firstField(kind) + f;
                laySlot(heap.cell(h, f), at + layout.place[i], layout.how[i], layout.bytes[i], layout.mark[i], depth);
            }
        }

        private void laySlot(long v, int at, int how, int many, int mark, int depth) {
            int h = (int) v;
            if (how == Layout.NUMBER) {
                write(at, many, v);
            } else if (h == 0) {
                return;
            } else if (how != Layout.REFERENCE) {
                layFields(h, at, depth + 1);
                if (mark != NONE) {
                    write(at + mark, 1, 1);
                }
            } else if (Heap.isThing(h)) {
                write(at, 4, place[h]);
            } else {
                int to = filledUp(free);
                write(at, 4, to);
                lay(h, to, depth + 1);
            }
        }

        private void write(int at, int many, long v) {
            for (int i = 0; i < many && writing; i++) {
                if (at + i >= 0 && at + i < bytes.length) {
                    bytes[at + i] = (byte) (v >>> 8 * (many - 1 - i));
                }
            }
        }
    }
}
