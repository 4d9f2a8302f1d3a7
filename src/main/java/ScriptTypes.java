import java.util.Arrays;

/**
 * A script language after ECMAScript: its text is read into code for a stack machine, a machine runs
 * the code, and an abstract machine tells of each instruction what can lie on the stack and in all
 * objects when it is reached.
 */
public final class ScriptTypes {
    public static final int NONE = -1;

    private static final int TAPE_LIMIT = 4000;
    private static final int CODE_LIMIT = 600;
    private static final int NAME_LIMIT = 90;
    private static final int FUNCTION_LIMIT = 10;
    private static final int SITE_LIMIT = 19;
    private static final int VARIABLE_LIMIT = 12;
    private static final int PARAMETER_LIMIT = 8;
    private static final int LABEL_LIMIT = 29 + 6 * FUNCTION_LIMIT + 2 * SITE_LIMIT;
    private static final int FIELD_LIMIT = 450000;
    private static final int FIRST_NAMES = 31;
    private static final int FIRST_LABELS = 29;
    private static final int STEP_LIMIT = 2000;
    // Each instruction, and two of each function, counts against FIELD_LIMIT with all labels and names, which are
    // at least the first ones: so no script has more of them, and none a stack that is higher than this, as each
    // value on it comes from an instruction of its own (but the copies of COPY TWO, one of which goes at once).
    private static final int STATE_LIMIT = FIELD_LIMIT / (FIRST_LABELS * FIRST_NAMES);
    private static final int HEIGHT_LIMIT = STATE_LIMIT + 1;

    // the operations of instructions
    private static final int CONSTANT = 0;
    private static final int LOAD = 1;
    private static final int STORE = 2;
    private static final int GLOBAL = 3;
    private static final int SET_GLOBAL = 4;
    private static final int TYPE_GLOBAL = 5;
    private static final int THIS = 6;
    private static final int OBJECT = 7;
    private static final int ARRAY = 8;
    private static final int FUNCTION = 9;
    private static final int GET = 10;
    private static final int PUT = 11;
    private static final int DELETE = 12;
    private static final int UNARY = 13;
    private static final int BINARY = 14;
    private static final int CALL = 15;
    private static final int NEW = 16;
    private static final int DROP = 17;
    private static final int COPY = 18;
    private static final int COPY_TWO = 19;
    private static final int UNDER = 20;
    private static final int JUMP = 21;
    private static final int UNLESS = 22;
    private static final int AND = 23;
    private static final int OR = 24;
    private static final int RETURN = 25;
    private static final int THROW = 26;
    private static final int TRY = 27;
    private static final int LEAVE = 28;
    private static final int NAMES_OF = 29;
    private static final int NEXT = 30;

    // the sorts of values, and what CONSTANT's a tells of the first seven
    private static final int UNDEFINED = 0;
    private static final int NULL = 1;
    private static final int TRUE = 2;
    private static final int FALSE = 3;
    private static final int NAN = 4;
    private static final int NUMBER = 5;
    private static final int STRING = 6;
    private static final int THING = 7;
    private static final int LIST = 8;

    // the sorts of objects
    private static final int PLAIN = 0;
    private static final int CALLABLE = 1;
    private static final int ARRAY_SORT = 2;
    private static final int SCOPE = 3;

    // names by their numbers
    private static final int LENGTH = 0;
    private static final int PROTOTYPE = 1;
    private static final int CONSTRUCTOR = 2;
    private static final int MESSAGE = 3;
    private static final int NAME = 4;
    private static final int N_UNDEFINED = 19;
    private static final int N_OBJECT = 20;
    private static final int N_FUNCTION = 24;
    private static final int N_THING = 29;
    private static final int N_EMPTY = 30;

    // objects and labels that are there at first
    private static final int FIRST_PROTO = 1;
    private static final int FUNCTION_PROTO = 2;
    private static final int ARRAY_PROTO = 3;
    private static final int STRING_PROTO = 4;
    private static final int ERROR_PROTO = 5;
    private static final int PRINT = 9;
    private static final int MAKE_OBJECT = 10;
    private static final int MAKE_ARRAY = 11;
    private static final int MAKE_STRING = 12;
    private static final int IS_NAN = 13;
    private static final int MAKE_ERROR = 14;
    private static final int LAST_ERROR = 17;
    private static final int PUSH = 18;
    private static final int POP = 19;
    private static final int CALL_NATIVE = 20;
    private static final int HAS_OWN = 21;
    private static final int CHAR_AT = 22;
    private static final int FIRST_OBJECTS = 23;
    private static final int OBJECT_LABEL = 23;
    private static final int ARRAY_LABEL = 24;
    private static final int ERROR_LABEL = 25;
    private static final int TYPE_ERROR = 26;
    private static final int REFERENCE_ERROR = 27;
    private static final int RANGE_ERROR = 28;

    // of each first object its PROTO; and of their properties object, name, and value
    private static final int[] FIRST_PROTOS = {1, NONE, 1, 1, 1, 1, 5, 5, 5, 2, 2, 2, 2, 2, 2, 2, 2, 2, 2, 2, 2, 2, 2};
    private static final int[] FIRST_PROPERTIES = {
        0, 5, THING, 9, 0, 6, THING, 10, 0, 7, THING, 11, 0, 8, THING, 12,
        0, 9, THING, 13, 0, 10, THING, 14, 0, 11, THING, 15, 0, 12, THING, 16,
        0, 13, THING, 17, 1, 2, THING, 10, 1, 17, THING, 21, 2, 16, THING, 20,
        3, 2, THING, 11, 3, 14, THING, 18, 3, 15, THING, 19, 4, 2, THING, 12,
        4, 18, THING, 22, 5, 2, THING, 14, 5, 4, STRING, 10, 6, 2, THING, 15,
        6, 4, STRING, 11, 7, 2, THING, 16, 7, 4, STRING, 12, 8, 2, THING, 17,
        8, 4, STRING, 13, 10, 1, THING, 1, 11, 1, THING, 3, 12, 1, THING, 4,
        14, 1, THING, 5, 15, 1, THING, 6, 16, 1, THING, 7, 17, 1, THING, 8
    };

    private final int[] tape = new int[TAPE_LIMIT];
    private int tapeLength;
    private boolean hasScript;
    private final Texts texts = new Texts();
    private final Code code = new Code();
    private final Draft draft = new Draft(code);
    private final Parser parser = new Parser(tape, texts, code, draft);
    private final Machine machine = new Machine(code, texts);
    private final Solver solver = new Solver(code, texts);

    public ScriptTypes() {
        tapeLength = 0;
        hasScript = false;
    }

    // ---- the text and its code

    public int feed(int a, int b, int c, int d, int e) {
        if (tapeLength > TAPE_LIMIT - 20) {
            return NONE;
        }
        feedWord(a);
        feedWord(b);
        feedWord(c);
        feedWord(d);
        feedWord(e);
        return tapeLength;
    }

    private void feedWord(int word) {
        for (int shift = 24; shift >= 0; shift -= 8) {
            if (tapeLength < TAPE_LIMIT) {
                tape[tapeLength] = word >>> shift & 255;
                tapeLength++;
            }
        }
    }

    public int back(int n) {
        if (n < 0 || n > tapeLength) {
            return NONE;
        }
        tapeLength -= n;
        return tapeLength;
    }

    public int read() {
        hasScript = false;
        machine.forget();
        solver.forget();
        int length = tapeLength;
        tapeLength = 0;
        int fault = parser.parse(length);
        if (fault == 0 && !draft.makeCode(texts.count)) {
            fault = 4;
        }
        if (fault == 0) {
            hasScript = true;
            texts.names = texts.count;
            code.names = texts.count;
        }
        return fault;
    }

    public int count(int what) {
        if (what == 5) {
            return tapeLength;
        }
        if (what >= 0 && what <= 4) {
            return hasScript ? code.amount(what) : 0;
        }
        if (what >= 6 && what <= 11) {
            return machine.amount(what);
        }
        return what == 12 ? solver.amount() : NONE;
    }

    public int letter(int s, int k) {
        return hasScript ? texts.sign(s, k) : NONE;
    }

    public int instruction(int k, int what) {
        if (!hasScript || k < 0 || k >= code.count) {
            return NONE;
        }
        switch (what) {
            case 0: return code.op[k];
            case 1: return code.a[k];
            case 2: return code.b[k];
            case 3: return code.fn[k];
            default: return NONE;
        }
    }

    // ---- the machine

    public void begin() throws IllegalStateException {
        if (!hasScript) {
            throw new IllegalStateException("there is no script");
        }
        machine.start();
    }

    public int run(int n) throws IllegalArgumentException, IllegalStateException {
        if (n < 0 || n > STEP_LIMIT) {
            throw new IllegalArgumentException("steps are 0 to 2000");
        }
        if (!machine.goesOn()) {
            throw new IllegalStateException("the machine does not go on");
        }
        return machine.go(n);
    }

    public int frame(int i, int what) {
        return machine.frameFact(i, what);
    }

    public int value(int i, int k, int what) {
        return machine.valueFact(i, k, what);
    }

    public int object(int o, int what) {
        return machine.objectFact(o, what);
    }

    public int property(int o, int k, int what) {
        return machine.propertyFact(o, k, what);
    }

    public int printed(int i, int k) {
        return machine.printedSign(i, k);
    }

    public int uncaught(int what) {
        return machine.uncaughtFact(what);
    }

    // ---- the abstract machine

    public int solve() throws IllegalStateException {
        if (!hasScript) {
            throw new IllegalStateException("there is no script");
        }
        if (!solver.solved) {
            solver.work();
        }
        return solver.amount();
    }

    public int height(int k) {
        return solver.isReached(k) ? code.height[k] : NONE;
    }

    public long slot(int k, int i, int what) {
        return solver.isReached(k) ? solver.slotFact(k, i, what) : 0;
    }

    public long field(int k, int l, int n, int what) {
        return solver.isReached(k) ? solver.fieldFact(k, l, n, what) : 0;
    }

    public long link(int k, int l, int what) {
        return solver.isReached(k) ? solver.linkFact(k, l, what) : 0;
    }

    public long result(int f, int how, int what) {
        return solver.resultFact(f, how, what);
    }

    public int warns(int k) {
        return solver.isReached(k) ? solver.warnings(k) : NONE;
    }

    /** The strings, each once: the names first, then those that the machine makes; and what primitive values mean. */
    private static final class Texts {
        private static final int LIMIT = 400;
        private static final int LONGEST = 60;
        private static final int CHAINS = 128;
        private static final long NO_NUMBER = 1L << 40;
        private static final String FIRST = "length prototype constructor message name print Object Array String isNaN Error TypeError ReferenceError RangeError push pop call hasOwnProperty charAt undefined object boolean number string function null true false NaN [object]";
        // the name that is the text of undefined, null, true, false, NaN
        private static final int[] WORDS = {19, 25, 26, 27, 28};
        // the name that typeof answers for each sort of value
        private static final int[] TYPES = {19, 20, 21, 21, 22, 22, 23, 20};

        private final char[] signs = new char[LIMIT * LONGEST];
        private final int[] lengths = new int[LIMIT];
        private final int[] next = new int[LIMIT];
        private final int[] heads = new int[CHAINS];
        // the text that is being made
        private final char[] made = new char[LONGEST];
        private int madeLength;
        private int madeHash;
        int count;
        int names;
        // what unary() and binary() worked out; a string with data -1 is the text that is being made
        int kind;
        int data;

        Texts() {
            Arrays.fill(heads, -1);
            clear();
            for (int i = 0; i < FIRST.length(); i++) {
                if (FIRST.charAt(i) == ' ') {
                    keep();
                    clear();
                } else {
                    add(FIRST.charAt(i));
                }
            }
            keep();
            clear();
            keep();
            names = count;
        }

        void clear() {
            madeLength = 0;
            madeHash = 0;
        }

        // Strings are cut to 60 signs whenever they are made.
        void add(char sign) {
            if (madeLength < LONGEST) {
                made[madeLength] = sign;
                madeLength++;
                madeHash = madeHash * 31 + sign;
            }
        }

        void addString(int s) {
            if (s >= 0 && s < count) {
                for (int i = 0; i < lengths[s]; i++) {
                    add(signs[s * LONGEST + i]);
                }
            }
        }

        void addNumber(int n) {
            long rest = n < 0 ? -(long) n : n;
            long power = 1;
            for (int i = 0; i < 10 && rest >= power * 10; i++) {
                power *= 10;
            }
            for (int i = n < 0 ? -1 : 0; i < 11 && power > 0 && madeLength < LONGEST; i++) {
                char sign = i < 0 ? '-' : (char) ('0' + (int) (rest / power % 10));
                made[madeLength] = sign;
                madeLength++;
                madeHash = madeHash * 31 + sign;
                power = i < 0 ? power : power / 10;
            }
        }

        void addValue(int sort, int datum) {
            if (sort == NUMBER) {
                addNumber(datum);
            } else {
                addString(fixedText(sort, datum));
            }
        }

        // The number of a value's text, if no string need be made for it; else -1.
        int fixedText(int sort, int datum) {
            if (sort >= UNDEFINED && sort <= NAN) {
                return WORDS[sort];
            }
            if (sort == STRING) {
                return datum;
            }
            return sort == NUMBER ? -1 : N_THING;
        }

        // The string that is a value's text; a number's is made.
        int textOf(int sort, int datum) {
            if (sort != NUMBER) {
                return fixedText(sort, datum);
            }
            clear();
            addNumber(datum);
            int s = find();
            s = s < 0 ? keep() : s;
            if (s < 0) {
                throw new UnsupportedOperationException("no room");
            }
            return s;
        }

        // The number of the string that is being made, or -1.
        int find() {
            int s = heads[madeHash & CHAINS - 1];
            for (int i = 0; i < LIMIT && s >= 0; i++) {
                boolean alike = lengths[s] == madeLength;
                for (int j = 0; alike && j < madeLength; j++) {
                    alike = signs[s * LONGEST + j] == made[j];
                }
                if (alike) {
                    return s;
                }
                s = next[s];
            }
            return -1;
        }

        // Keeps the text that is being made behind the others, if there is room.
        int keep() {
            if (count >= LIMIT) {
                return -1;
            }
            int s = count;
            for (int i = 0; i < madeLength; i++) {
                signs[s * LONGEST + i] = made[i];
            }
            lengths[s] = madeLength;
            next[s] = heads[madeHash & CHAINS - 1];
            heads[madeHash & CHAINS - 1] = s;
            count++;
            return s;
        }

        int make() {
            int s = find();
            if (s < 0) {
                s = keep();
            }
            if (s < 0) {
                throw new UnsupportedOperationException("no room");
            }
            return s;
        }

        // Keeps only the first strings; the latest stand first in their chains.
        void cutTo(int size) {
            for (int s = count - 1; s >= size && s >= 0; s--) {
                clear();
                addString(s);
                heads[madeHash & CHAINS - 1] = next[s];
                count = s;
            }
        }

        int sign(int s, int k) {
            return s >= 0 && s < count && k >= 0 && k < lengths[s] ? signs[s * LONGEST + k] : NONE;
        }

        int lengthOf(int s) {
            return s >= 0 && s < count ? lengths[s] : 0;
        }

        // The int whose text string s is, as ints are written; else NO_NUMBER.
        long writtenInt(int s) {
            long n = meaning(s);
            if (n == NO_NUMBER || lengthOf(s) == 0) {
                return NO_NUMBER;
            }
            clear();
            addNumber((int) n);
            return find() == s ? n : NO_NUMBER;
        }

        // The number that string s means, or NO_NUMBER.
        private long meaning(int s) {
            int length = s >= 0 && s < count ? lengths[s] : 0;
            if (length == 0) {
                return 0;
            }
            int from = signs[s * LONGEST] == '-' ? 1 : 0;
            if (length - from < 1 || length - from > 10) {
                return NO_NUMBER;
            }
            long n = 0;
            for (int i = from; i < length; i++) {
                int c = signs[s * LONGEST + i];
                if (c < '0' || c > '9') {
                    return NO_NUMBER;
                }
                n = n * 10 + (c - '0');
            }
            n = from == 1 ? -n : n;
            return n == (int) n ? n : NO_NUMBER;
        }

        long number(int sort, int datum) {
            switch (sort) {
                case NULL:
                case FALSE: return 0;
                case TRUE: return 1;
                case NUMBER: return datum;
                case STRING: return meaning(datum);
                default: return NO_NUMBER;
            }
        }

        // NaN counts as 0.
        int bitsOf(int sort, int datum) {
            long n = number(sort, datum);
            return n == NO_NUMBER ? 0 : (int) n;
        }

        boolean truth(int sort, int datum) {
            switch (sort) {
                case TRUE:
                case THING: return true;
                case NUMBER: return datum != 0;
                case STRING: return lengthOf(datum) > 0;
                default: return false;
            }
        }

        int typeName(int sort) {
            return sort >= 0 && sort < TYPES.length ? TYPES[sort] : N_OBJECT;
        }

        private void answer(int sort, int datum) {
            kind = sort;
            data = datum;
        }

        private void answerTruth(boolean holds) {
            answer(holds ? TRUE : FALSE, 0);
        }

        // + - ~ ! of a value
        void unary(int a, int sort, int datum) {
            long n = number(sort, datum);
            if (a == 3) {
                answerTruth(!truth(sort, datum));
            } else if (a == 2) {
                answer(NUMBER, ~bitsOf(sort, datum));
            } else if (n == NO_NUMBER) {
                answer(NAN, 0);
            } else {
                answer(NUMBER, a == 1 ? (int) -n : (int) n);
            }
        }

        // The signs 0 to 18 of BINARY.
        void binary(int a, int sort, int datum, int sort2, int datum2) {
            if (a == 0 && (sort >= STRING || sort2 >= STRING)) {
                clear();
                addValue(sort, datum);
                addValue(sort2, datum2);
                answer(STRING, -1);
            } else if (a <= 4) {
                arithmetic(a, number(sort, datum), number(sort2, datum2));
            } else if (a <= 10) {
                answer(NUMBER, bitwise(a, bitsOf(sort, datum), bitsOf(sort2, datum2)));
            } else if (a <= 12) {
                answerTruth(alike(sort, datum, sort2, datum2) == (a == 11));
            } else if (a <= 14) {
                answerTruth(same(sort, datum, sort2, datum2) == (a == 13));
            } else {
                answerTruth(ordered(a, sort, datum, sort2, datum2));
            }
        }

        private void arithmetic(int a, long x, long y) {
            if (x == NO_NUMBER || y == NO_NUMBER || a >= 3 && y == 0) {
                answer(NAN, 0);
                return;
            }
            long z;
            switch (a) {
                case 0: z = x + y; break;
                case 1: z = x - y; break;
                case 2: z = x * y; break;
                case 3: z = y == 0 ? 0 : x / y; break;
                default: z = y == 0 ? 0 : x % y; break;
            }
            answer(NUMBER, (int) z);
        }

        private int bitwise(int a, int x, int y) {
            switch (a) {
                case 5: return x << (y & 31);
                case 6: return x >> (y & 31);
                case 7: return x >>> (y & 31);
                case 8: return x & y;
                case 9: return x | y;
                default: return x ^ y;
            }
        }

        private boolean same(int sort, int datum, int sort2, int datum2) {
            if (sort != sort2 || sort == NAN) {
                return false;
            }
            return sort < NUMBER || datum == datum2;
        }

        private int group(int sort) {
            if (sort == TRUE) {
                return FALSE;
            }
            return sort == NAN ? NUMBER : sort;
        }

        private boolean alike(int sort, int datum, int sort2, int datum2) {
            if (sort <= NULL || sort2 <= NULL) {
                return sort <= NULL && sort2 <= NULL;
            }
            if (group(sort) == group(sort2)) {
                return same(sort, datum, sort2, datum2);
            }
            if (sort >= THING || sort2 >= THING) {
                return false;
            }
            long x = number(sort, datum);
            return x != NO_NUMBER && x == number(sort2, datum2);
        }

        private boolean ordered(int a, int sort, int datum, int sort2, int datum2) {
            int order;
            if (sort == STRING && sort2 == STRING) {
                order = compareStrings(datum, datum2);
            } else {
                long x = number(sort, datum);
                long y = number(sort2, datum2);
                if (x == NO_NUMBER || y == NO_NUMBER) {
                    return false;
                }
                order = Long.compare(x, y);
            }
            switch (a) {
                case 15: return order < 0;
                case 16: return order > 0;
                case 17: return order <= 0;
                default: return order >= 0;
            }
        }

        private int compareStrings(int s, int t) {
            int shorter = Math.min(lengthOf(s), lengthOf(t));
            for (int i = 0; i < shorter; i++) {
                int order = sign(s, i) - sign(t, i);
                if (order != 0) {
                    return order;
                }
            }
            return lengthOf(s) - lengthOf(t);
        }
    }

    /** The tokens of the tape, one at a time. */
    private static final class Scanner {
        private static final int END = 0;
        private static final int WORD = 1;
        private static final int DIGITS = 2;
        private static final int QUOTED = 3;
        private static final int FIRST_KEYWORD = 4;
        private static final int BREAK = 4;
        private static final int CASE = 5;
        private static final int CATCH = 6;
        private static final int CONTINUE = 7;
        private static final int DEFAULT = 8;
        private static final int DELETE_SIGN = 9;
        private static final int DO = 10;
        private static final int ELSE = 11;
        private static final int FALSE_WORD = 12;
        private static final int FINALLY = 13;
        private static final int FOR = 14;
        private static final int FUNCTION_WORD = 15;
        private static final int IF = 16;
        private static final int IN = 17;
        private static final int INSTANCEOF = 18;
        private static final int NAN_WORD = 19;
        private static final int NEW_WORD = 20;
        private static final int NULL_WORD = 21;
        private static final int RETURN_WORD = 22;
        private static final int SWITCH = 23;
        private static final int THIS_WORD = 24;
        private static final int THROW_WORD = 25;
        private static final int TRUE_WORD = 26;
        private static final int TRY_WORD = 27;
        private static final int TYPEOF = 28;
        private static final int UNDEFINED_WORD = 29;
        private static final int VAR = 30;
        private static final int VOID = 31;
        private static final int WHILE = 32;
        private static final int FIRST_SIGN = 40;
        private static final int OPEN_BRACE = 40;
        private static final int CLOSE_BRACE = 41;
        private static final int OPEN_ROUND = 42;
        private static final int CLOSE_ROUND = 43;
        private static final int OPEN_SQUARE = 44;
        private static final int CLOSE_SQUARE = 45;
        private static final int DOT = 46;
        private static final int SEMICOLON = 47;
        private static final int COMMA = 48;
        private static final int LESS = 49;
        private static final int PLUS = 57;
        private static final int MINUS = 58;
        private static final int INCREMENT = 62;
        private static final int DECREMENT = 63;
        private static final int NOT = 70;
        private static final int TILDE = 71;
        private static final int OR_OR = 73;
        private static final int QUESTION = 74;
        private static final int COLON = 75;
        private static final int ASSIGN = 76;
        private static final int LAST_ASSIGN = 87;

        private static final String KEYWORDS = "break case catch continue default delete do else false finally for function if in instanceof NaN new null return switch this throw true try typeof undefined var void while";
        private static final String SIGNS = "{ } ( ) [ ] . ; , < > <= >= == != === !== + - * % / ++ -- << >> >>> & | ^ ! ~ && || ? : = += -= *= /= %= <<= >>= >>>= &= |= ^=";
        private static final int LONGEST_NAME = 16;
        private static final int LONGEST_QUOTE = 40;
        private static final int LONGEST_NUMBER = 10;
        private static final long LARGEST = 2147483647L;

        private final int[] tape;
        private int length;
        private int at;
        private int lineAt;
        // the token: its sort, line, bytes, and what it means
        int kind;
        int line;
        int from;
        int number;
        final char[] quote = new char[LONGEST_QUOTE];
        int quoteLength;
        // the line of the token before, and how many came before
        int lastLine;
        int passed;
        int fault;
        int faultLine;
        private int matched;

        Scanner(int[] tape) {
            this.tape = tape;
        }

        void open(int bytes) {
            length = Math.max(0, Math.min(bytes, tape.length));
            at = 0;
            lineAt = 1;
            line = 1;
            from = 0;
            passed = -1;
            fault = 0;
            faultLine = 0;
            advance();
        }

        void fail(int number) {
            fault = number;
            faultLine = line;
            throw new IllegalStateException("fault");
        }

        boolean onNewLine() {
            return line > lastLine;
        }

        int end() {
            return at;
        }

        private int byteAt(int i) {
            return i >= 0 && i < length ? tape[i] : -1;
        }

        void advance() {
            lastLine = line;
            passed++;
            skipBlanks();
            line = lineAt;
            from = at;
            int c = byteAt(at);
            if (c < 0) {
                kind = END;
            } else if (isLetter(c)) {
                takeWord();
            } else if (isDigit(c)) {
                takeNumber();
            } else if (c == '"' || c == '\'') {
                takeQuote(c);
            } else {
                takeSign();
            }
        }

        private static boolean isLetter(int c) {
            return c >= 'a' && c <= 'z' || c >= 'A' && c <= 'Z' || c == '_' || c == '$';
        }

        private static boolean isDigit(int c) {
            return c >= '0' && c <= '9';
        }

        private void skipBlanks() {
            for (int i = 0; i <= length; i++) {
                int c = byteAt(at);
                if (c == 10) {
                    lineAt++;
                }
                if (c == 9 || c == 10 || c == 32) {
                    at++;
                } else if (c == '/' && byteAt(at + 1) == '/') {
                    skipLine();
                } else if (c == '/' && byteAt(at + 1) == '*') {
                    skipLong();
                } else {
                    return;
                }
            }
        }

        private void skipLine() {
            for (int i = at; i < length && byteAt(at) != 10; i++) {
                at++;
            }
        }

        private void skipLong() {
            line = lineAt;
            at += 2;
            for (int i = at; i < length && !(byteAt(at) == '*' && byteAt(at + 1) == '/'); i++) {
                if (byteAt(at) == 10) {
                    lineAt++;
                }
                at++;
            }
            if (byteAt(at) < 0) {
                fail(1);
            }
            at += 2;
        }

        private void takeWord() {
            for (int i = at; i < length && (isLetter(byteAt(at)) || isDigit(byteAt(at))); i++) {
                at++;
            }
            if (at - from > LONGEST_NAME) {
                fail(1);
            }
            int keyword = indexOf(KEYWORDS, at - from);
            kind = keyword < 0 ? WORD : FIRST_KEYWORD + keyword;
        }

        private void takeNumber() {
            long n = 0;
            for (int i = at; i < length && isDigit(byteAt(at)); i++) {
                n = Math.min(n * 10 + (byteAt(at) - '0'), LARGEST + 1);
                at++;
            }
            if (at - from > LONGEST_NUMBER || n > LARGEST || isLetter(byteAt(at))) {
                fail(1);
            }
            kind = DIGITS;
            number = (int) n;
        }

        private void takeQuote(int mark) {
            quoteLength = 0;
            at++;
            for (int i = at; i <= length && byteAt(at) != mark; i++) {
                int c = byteAt(at);
                if (c == '\\') {
                    at++;
                    c = escaped(byteAt(at));
                } else if (c < 32 || c > 126) {
                    c = -1;
                }
                if (c < 0 || quoteLength >= LONGEST_QUOTE) {
                    fail(1);
                } else {
                    quote[quoteLength] = (char) c;
                }
                quoteLength++;
                at++;
            }
            at++;
            kind = QUOTED;
        }

        private static int escaped(int c) {
            switch (c) {
                case 'n': return 10;
                case 't': return 9;
                case '\\':
                case '\'':
                case '"': return c;
                default: return -1;
            }
        }

        private void takeSign() {
            int sign = indexOf(SIGNS, 0);
            if (sign < 0) {
                fail(1);
            }
            kind = FIRST_SIGN + sign;
            at += matched;
        }

        // Which word of the list stands at the token: the one of this length, or with 0 the longest one.
        private int indexOf(String list, int wanted) {
            int found = -1;
            int index = 0;
            int start = 0;
            matched = 0;
            for (int i = 0; i <= list.length(); i++) {
                if (i == list.length() || list.charAt(i) == ' ') {
                    int size = i - start;
                    boolean here = wanted == 0 ? size > matched && from + size <= length : size == wanted;
                    for (int j = 0; here && j < size; j++) {
                        here = tape[from + j] == list.charAt(start + j);
                    }
                    if (here) {
                        found = index;
                        matched = size;
                    }
                    index++;
                    start = i + 1;
                }
            }
            return found;
        }
    }

    /** The script: its instructions and its functions. */
    private static final class Code {
        // how much higher the stack is behind an instruction, where it goes on to the next place
        private static final int[] RISE = {1, 1, 0, 1, 0, 1, 1, 1, 1, 1, -1, -2, -1, 0, -1, 0, 0, -1, 1, 2, 1, 0, -1, -1, -1, 0, 0, 0, 0, 0, 1};

        final int[] op = new int[CODE_LIMIT];
        final int[] a = new int[CODE_LIMIT];
        final int[] b = new int[CODE_LIMIT];
        final int[] fn = new int[CODE_LIMIT];
        // values on the stack ahead of each instruction (-1 where no way leads), and the latest TRY open there
        final int[] height = new int[CODE_LIMIT];
        final int[] tryAt = new int[CODE_LIMIT];
        int count;
        int sites;
        int names;
        int functions;
        final int[] first = new int[FUNCTION_LIMIT + 1];
        final int[] parent = new int[FUNCTION_LIMIT + 1];
        final int[] parameters = new int[FUNCTION_LIMIT + 1];
        // the name of a declaration, and the own name of another function; -1 if there is none
        final int[] declared = new int[FUNCTION_LIMIT + 1];
        final int[] own = new int[FUNCTION_LIMIT + 1];
        final int[][] variables = new int[FUNCTION_LIMIT + 1][NAME_LIMIT];
        final int[] variableCount = new int[FUNCTION_LIMIT + 1];
        private boolean grown;

        void clear() {
            count = 0;
            sites = 0;
            names = 0;
            functions = 0;
        }

        int labels() {
            return FIRST_LABELS + 6 * (functions - 1) + 2 * sites;
        }

        int amount(int what) {
            switch (what) {
                case 0: return count;
                case 1: return functions;
                case 2: return names;
                case 3: return labels();
                default: return sites;
            }
        }

        int scopeLabel(int f) {
            return FIRST_LABELS + 6 * (f - 1);
        }

        int functionLabel(int f) {
            return FIRST_LABELS + 6 * (f - 1) + 2;
        }

        int prototypeLabel(int f) {
            return FIRST_LABELS + 6 * (f - 1) + 4;
        }

        int siteLabel(int site) {
            return FIRST_LABELS + 6 * (functions - 1) + 2 * site;
        }

        // The function whose object has this label, latest or older; -1 if none has.
        int functionOfLabel(int l) {
            int place = l - FIRST_LABELS;
            if (place < 0 || place >= 6 * (functions - 1)) {
                return -1;
            }
            return place % 6 / 2 == 1 ? place / 6 + 1 : -1;
        }

        // The number of the new function, or -1 if there are too many.
        int addFunction(int outer) {
            if (functions > FUNCTION_LIMIT) {
                return -1;
            }
            int f = functions;
            functions++;
            parent[f] = outer;
            parameters[f] = 0;
            declared[f] = -1;
            own[f] = -1;
            variableCount[f] = 0;
            return f;
        }

        // Whether function f still has no more variables than it may have.
        boolean addVariable(int f, int name) {
            if (hasVariable(f, name)) {
                return true;
            }
            int limit = f == 0 ? NAME_LIMIT : VARIABLE_LIMIT;
            if (variableCount[f] >= limit) {
                return false;
            }
            variables[f][variableCount[f]] = name;
            variableCount[f]++;
            return true;
        }

        boolean hasVariable(int f, int name) {
            for (int i = 0; i < variableCount[f]; i++) {
                if (variables[f][i] == name) {
                    return true;
                }
            }
            return false;
        }

        // How many functions farther out than f the name is a variable; -1 if it is a global.
        int distance(int f, int name) {
            int g = f;
            for (int far = 0; far <= FUNCTION_LIMIT && g > 0; far++) {
                if (hasVariable(g, name)) {
                    return far;
                }
                g = parent[g];
            }
            return -1;
        }

        int rise(int k) {
            if (op[k] == CALL) {
                return -1 - a[k];
            }
            return op[k] == NEW ? -a[k] : RISE[op[k]];
        }

        // Follows all ways on to find the stack's height and the open TRY at each instruction.
        void findHeights() {
            Arrays.fill(height, -1);
            for (int f = 0; f < functions; f++) {
                arrive(first[f], 0, -1);
            }
            grown = true;
            for (int pass = 0; pass <= count && grown; pass++) {
                grown = false;
                for (int k = 0; k < count; k++) {
                    if (height[k] >= 0) {
                        follow(k);
                    }
                }
            }
        }

        private void arrive(int k, int high, int open) {
            if (k >= 0 && k < count && height[k] < 0 && high >= 0) {
                height[k] = high;
                tryAt[k] = open;
                grown = true;
            }
        }

        private void follow(int k) {
            int high = height[k];
            int open = tryAt[k];
            int outer = open < 0 ? -1 : tryAt[open];
            switch (op[k]) {
                case RETURN:
                case THROW: return;
                case JUMP: arrive(a[k], high, open); return;
                case UNLESS:
                case NEXT: arrive(a[k], high - 1, open); break;
                case AND:
                case OR: arrive(a[k], high, open); break;
                case TRY: arrive(a[k], high + 1, open); break;
                default: break;
            }
            int inside = op[k] == LEAVE ? outer : open;
            arrive(k + 1, high + rise(k), op[k] == TRY ? k : inside);
        }
    }

    /**
     * What the text says, in its order, as instructions and marks without places; and the code that is
     * made of it, with a finally's part as often as ways lead through it.
     */
    private static final class Draft {
        private static final int SIZE = 4096;
        private static final int FINALS = 160;
        private static final int DEPTH = 30;
        // what stands in a draft beside the operations
        private static final int LABEL = 31;
        private static final int GET_NAME = 32;
        private static final int SET_NAME = 33;
        private static final int TYPE_NAME = 34;
        private static final int JUMP_BACK = 35;
        private static final int LOOP = 36;
        private static final int END_LOOP = 37;
        private static final int BREAK = 38;
        private static final int CONTINUE = 39;
        private static final int GO_BACK = 40;
        private static final int OPEN_TRY = 41;
        private static final int CLOSE_TRY = 42;
        private static final int FINAL = 43;
        private static final int END_FINAL = 44;
        private static final int BODY = 45;
        private static final int END_BODY = 46;
        // the sorts of LOOP: whose continue goes on, goes back, for in's, and a switch
        private static final int FORWARD = 0;
        private static final int BACKWARD = 1;
        private static final int FOR_IN = 2;
        private static final int CASES = 3;
        // what else is open around a place: a try, with its finally's number, and values on the stack
        private static final int A_TRY = 4;
        private static final int VALUES = 5;

        private final Code code;
        private final int[] op = new int[SIZE];
        private final int[] a = new int[SIZE];
        private final int[] b = new int[SIZE];
        int size;
        int labels;
        int finals;
        // the code will be too long, or something else too much
        boolean over;
        // of each label its place, and the latest jump that waits for it
        private final int[] place = new int[SIZE];
        private final int[] waiting = new int[SIZE];
        private final int[] bodyFrom = new int[FUNCTION_LIMIT + 1];
        private final int[] bodyTo = new int[FUNCTION_LIMIT + 1];
        private final int[] finalFrom = new int[FINALS];
        private final int[] finalTo = new int[FINALS];
        // what is open around the place: sort, number, and what is open around that; three ints each
        private final int[] around = new int[3 * SIZE];
        private int open;
        private int function;

        Draft(Code code) {
            this.code = code;
        }

        void clear() {
            size = 0;
            labels = 0;
            finals = 0;
            over = false;
        }

        void emit(int what, int x, int y) {
            insert(size, what, x, y);
        }

        void insert(int at, int what, int x, int y) {
            if (size >= SIZE) {
                over = true;
            }
            if (over || at < 0 || at > size) {
                return;
            }
            if (at < size) {
                System.arraycopy(op, at, op, at + 1, size - at);
                System.arraycopy(a, at, a, at + 1, size - at);
                System.arraycopy(b, at, b, at + 1, size - at);
            }
            op[at] = what;
            a[at] = x;
            b[at] = y;
            size++;
        }

        // The first of so many new labels.
        int newLabels(int many) {
            if (labels + many > SIZE) {
                over = true;
                return 0;
            }
            labels += many;
            return labels - many;
        }

        int newFinal() {
            if (finals >= FINALS) {
                over = true;
                return 0;
            }
            finals++;
            return finals - 1;
        }

        // What stands from middle on comes ahead of what stands from start on.
        void rotate(int start, int middle) {
            if (over || start < 0 || middle < start || middle > size) {
                return;
            }
            reverse(start, middle);
            reverse(middle, size);
            reverse(start, size);
        }

        private void reverse(int from, int to) {
            int j = to - 1;
            for (int i = from; i < j; i++) {
                int what = op[i];
                int x = a[i];
                int y = b[i];
                op[i] = op[j];
                a[i] = a[j];
                b[i] = b[j];
                op[j] = what;
                a[j] = x;
                b[j] = y;
                j--;
            }
        }

        // Makes the code; whether nothing is too much.
        boolean makeCode(int names) {
            code.count = 0;
            code.sites = 0;
            open = 0;
            Arrays.fill(waiting, -1);
            Arrays.fill(place, 0);
            findParts();
            for (int f = 0; f < code.functions && !over; f++) {
                function = f;
                code.first[f] = code.count;
                opening(f);
                part(bodyFrom[f], bodyTo[f], -1, 0);
                put(CONSTANT, UNDEFINED, 0);
                put(RETURN, 0, 0);
            }
            if (over || (code.count + 2L * code.functions) * code.labels() * names > FIELD_LIMIT) {
                return false;
            }
            code.findHeights();
            return true;
        }

        private void findParts() {
            bodyFrom[0] = 0;
            bodyTo[0] = size;
            for (int i = 0; i < size && !over; i++) {
                switch (op[i]) {
                    case BODY: bodyFrom[a[i]] = i + 1; break;
                    case END_BODY: bodyTo[a[i]] = i; break;
                    case FINAL: finalFrom[a[i]] = i + 1; break;
                    case END_FINAL: finalTo[a[i]] = i; break;
                    default: break;
                }
            }
        }

        // What stands ahead of a function's parts: the script's variables, and declarations.
        private void opening(int f) {
            for (int i = 0; f == 0 && i < code.variableCount[0]; i++) {
                put(CONSTANT, UNDEFINED, 0);
                setName(code.variables[0][i]);
                put(DROP, 0, 0);
            }
            for (int g = 1; g < code.functions; g++) {
                if (code.parent[g] == f && code.declared[g] >= 0) {
                    put(FUNCTION, g, 0);
                    setName(code.declared[g]);
                    put(DROP, 0, 0);
                }
            }
        }

        private void put(int what, int x, int y) {
            if (code.count >= CODE_LIMIT) {
                over = true;
            }
            if (over) {
                return;
            }
            int k = code.count;
            code.op[k] = what;
            code.a[k] = x;
            code.b[k] = y;
            code.fn[k] = function;
            code.count++;
        }

        // A jump to a label that comes later: until then its a is the jump that waited before it.
        private void putJump(int what, int label) {
            put(what, waiting[label], 0);
            if (!over) {
                waiting[label] = code.count - 1;
            }
        }

        private void putLabel(int label) {
            int k = waiting[label];
            for (int i = 0; i < CODE_LIMIT && k >= 0; i++) {
                int earlier = code.a[k];
                code.a[k] = code.count;
                k = earlier;
            }
            waiting[label] = -1;
            place[label] = code.count;
        }

        private int newSite() {
            if (code.sites >= SITE_LIMIT) {
                over = true;
                return 0;
            }
            code.sites++;
            return code.sites - 1;
        }

        private void getName(int name) {
            int far = code.distance(function, name);
            if (far < 0) {
                put(GLOBAL, 0, name);
            } else {
                put(LOAD, far, name);
            }
        }

        private void setName(int name) {
            int far = code.distance(function, name);
            if (far < 0) {
                put(SET_GLOBAL, 0, name);
            } else {
                put(STORE, far, name);
            }
        }

        private void typeName(int name) {
            if (code.distance(function, name) < 0) {
                put(TYPE_GLOBAL, 0, name);
            } else {
                getName(name);
                put(UNARY, 4, 0);
            }
        }

        private int enclose(int sort, int number, int outer) {
            if (3 * open + 2 >= around.length) {
                over = true;
                return outer;
            }
            around[3 * open] = sort;
            around[3 * open + 1] = number;
            around[3 * open + 2] = outer;
            open++;
            return open - 1;
        }

        private int disclose(int inner) {
            if (inner < 0) {
                return -1;
            }
            open = inner;
            return around[3 * inner + 2];
        }

        // The code of a part of the draft; inner is what is open around it. Each part of a finally that a
        // way goes through lies farther out, and deeper than DEPTH the code would be too long by far.
        private void part(int from, int to, int inner, int depth) {
            if (depth > DEPTH) {
                over = true;
            }
            int context = inner;
            for (int i = from; i < to && !over; i++) {
                switch (op[i]) {
                    case LOOP: context = enclose(a[i], b[i], context); break;
                    case OPEN_TRY:
                        putJump(TRY, a[i]);
                        context = enclose(A_TRY, b[i], context);
                        break;
                    case END_LOOP: context = disclose(context); break;
                    case CLOSE_TRY:
                        put(LEAVE, 0, 0);
                        context = disclose(context);
                        break;
                    case BREAK:
                    case CONTINUE: leaveLoop(op[i], context, depth); break;
                    case GO_BACK: leaveFunction(context, depth); break;
                    case END_FINAL: thrownFinal(a[i], b[i], context, depth); break;
                    case BODY: i = Math.max(i, bodyTo[a[i]]); break;
                    default: single(op[i], a[i], b[i]); break;
                }
            }
        }

        // What stands for one instruction, or two of typeof.
        private void single(int what, int x, int y) {
            switch (what) {
                case LABEL: putLabel(x); break;
                case FINAL: break;
                case GET_NAME: getName(x); break;
                case SET_NAME: setName(x); break;
                case TYPE_NAME: typeName(x); break;
                case JUMP_BACK: put(JUMP, place[x], 0); break;
                case JUMP:
                case UNLESS:
                case AND:
                case OR:
                case NEXT: putJump(what, x); break;
                case OBJECT:
                case ARRAY: put(what, newSite(), 0); break;
                case NEW: put(what, x, newSite()); break;
                default: put(what, x, y); break;
            }
        }

        // Behind a finally's part: it once more, for what is thrown.
        private void thrownFinal(int number, int label, int context, int depth) {
            putJump(JUMP, label + 1);
            putLabel(label);
            int inner = enclose(VALUES, 1, context);
            part(finalFrom[number], finalTo[number], inner, depth + 1);
            disclose(inner);
            put(THROW, 0, 0);
            putLabel(label + 1);
        }

        // LEAVE of the try that is open, and its finally's part, with so many values above its stack.
        private void leaveTry(int inner, int values, int depth) {
            put(LEAVE, 0, 0);
            int number = around[3 * inner + 1];
            int outer = around[3 * inner + 2];
            if (number < 0 || over) {
                return;
            }
            if (values == 0) {
                part(finalFrom[number], finalTo[number], outer, depth + 1);
                return;
            }
            int context = enclose(VALUES, values, outer);
            part(finalFrom[number], finalTo[number], context, depth + 1);
            if (!over) {
                disclose(context);
            }
        }

        private void leaveFunction(int context, int depth) {
            int values = 1;
            int inner = context;
            for (int i = 0; i < SIZE && inner >= 0 && !over; i++) {
                int sort = around[3 * inner];
                if (sort == A_TRY) {
                    leaveTry(inner, values, depth);
                } else if (sort == VALUES) {
                    values += around[3 * inner + 1];
                } else if (sort == FOR_IN) {
                    values++;
                }
                inner = around[3 * inner + 2];
            }
            put(RETURN, 0, 0);
        }

        private void leaveLoop(int what, int context, int depth) {
            int inner = context;
            for (int i = 0; i < SIZE && inner >= 0 && !over; i++) {
                int sort = around[3 * inner];
                int number = around[3 * inner + 1];
                if (sort == A_TRY) {
                    leaveTry(inner, 0, depth);
                } else if (sort == VALUES) {
                    for (int v = 0; v < number && !over; v++) {
                        put(DROP, 0, 0);
                    }
                } else if (what == BREAK) {
                    if (sort == FOR_IN) {
                        put(DROP, 0, 0);
                    }
                    putJump(JUMP, number);
                    return;
                } else if (sort == FORWARD) {
                    putJump(JUMP, number + 1);
                    return;
                } else if (sort != CASES) {
                    put(JUMP, place[number + 1], 0);
                    return;
                }
                inner = around[3 * inner + 2];
            }
        }
    }

    /** Reads a script by its grammar into the draft; the first fault ends it. */
    private static final class Parser {
        private static final int OPEN_LIMIT = 20;
        private static final int ITEM_LIMIT = 16;
        private static final int PENDING_LIMIT = 512;
        // what the latest unit left: its value, or a target whose value is not fetched yet
        private static final int VALUE = 0;
        private static final int ALONE = 1;
        private static final int MEMBER = 2;
        // how tightly the signs from < to || bind, and which BINARY they are
        private static final int[] BINDING = {7, 7, 7, 7, 6, 6, 6, 6, 9, 9, 10, 10, 10, 0, 0, 8, 8, 8, 5, 3, 4, 0, 0, 2, 1};
        private static final int[] SIGN = {15, 16, 17, 18, 11, 12, 13, 14, 0, 1, 2, 4, 3, 0, 0, 5, 6, 7, 8, 9, 10, 0, 0, 0, 0};

        private final Scanner scanner;
        private final int[] tape;
        private final Texts texts;
        private final Code code;
        private final Draft draft;
        // how many are open in one another of what counts for fault 5
        private int depth;
        private int function;
        private int loops;
        private int switches;
        // "in" is no sign here
        private boolean noIn;
        private int left;
        private int leftName;
        private int leftKey;
        // the signs whose second unit has not ended: how each binds, and its BINARY or label
        private final int[] pending = new int[2 * PENDING_LIMIT];
        private int pendingCount;
        private final int[] parameterFrom = new int[PARAMETER_LIMIT];
        private final int[] parameterTo = new int[PARAMETER_LIMIT];

        Parser(int[] tape, Texts texts, Code code, Draft draft) {
            this.tape = tape;
            this.texts = texts;
            this.code = code;
            this.draft = draft;
            scanner = new Scanner(tape);
        }

        // The fault and 8 times its line, or 0.
        int parse(int length) {
            texts.cutTo(FIRST_NAMES);
            code.clear();
            draft.clear();
            depth = 0;
            loops = 0;
            switches = 0;
            noIn = false;
            pendingCount = 0;
            left = VALUE;
            function = code.addFunction(-1);
            try {
                scanner.open(length);
                parts(Scanner.END);
            } catch (IllegalStateException e) {
                return scanner.fault + 8 * scanner.faultLine;
            }
            return 0;
        }

        // ---- tokens

        private boolean at(int kind) {
            return scanner.kind == kind;
        }

        private void expect(int kind) {
            if (scanner.kind != kind) {
                scanner.fail(2);
            }
            scanner.advance();
        }

        private void enter() {
            if (depth >= OPEN_LIMIT) {
                scanner.fail(5);
            }
            depth++;
        }

        private void leave() {
            depth--;
        }

        private int keepName() {
            int s = texts.find();
            if (s >= 0) {
                return s;
            }
            if (texts.count >= NAME_LIMIT) {
                draft.over = true;
                return 0;
            }
            return texts.keep();
        }

        // The token's bytes as a name.
        private int wordName() {
            texts.clear();
            for (int i = scanner.from; i < scanner.end() && i < tape.length; i++) {
                texts.add((char) tape[i]);
            }
            return keepName();
        }

        private int quoteName() {
            texts.clear();
            for (int i = 0; i < scanner.quoteLength && i < scanner.quote.length; i++) {
                texts.add(scanner.quote[i]);
            }
            return keepName();
        }

        private int expectName() {
            if (!at(Scanner.WORD)) {
                scanner.fail(2);
            }
            int name = wordName();
            scanner.advance();
            return name;
        }

        // A name behind . or a key, which may be a keyword.
        private int expectWord() {
            if (scanner.kind < Scanner.FIRST_KEYWORD ? !at(Scanner.WORD) : scanner.kind > Scanner.WHILE) {
                scanner.fail(2);
            }
            int name = wordName();
            scanner.advance();
            return name;
        }

        private int expectKey() {
            int name;
            if (at(Scanner.DIGITS)) {
                texts.clear();
                texts.addNumber(scanner.number);
                name = keepName();
            } else if (at(Scanner.QUOTED)) {
                name = quoteName();
            } else {
                return expectWord();
            }
            scanner.advance();
            return name;
        }

        private static boolean isPrefix(int kind) {
            switch (kind) {
                case Scanner.DELETE_SIGN:
                case Scanner.VOID:
                case Scanner.TYPEOF:
                case Scanner.INCREMENT:
                case Scanner.DECREMENT:
                case Scanner.PLUS:
                case Scanner.MINUS:
                case Scanner.TILDE:
                case Scanner.NOT: return true;
                default: return false;
            }
        }

        private static boolean beginsExpression(int kind) {
            switch (kind) {
                case Scanner.WORD:
                case Scanner.DIGITS:
                case Scanner.QUOTED:
                case Scanner.THIS_WORD:
                case Scanner.TRUE_WORD:
                case Scanner.FALSE_WORD:
                case Scanner.NULL_WORD:
                case Scanner.UNDEFINED_WORD:
                case Scanner.NAN_WORD:
                case Scanner.FUNCTION_WORD:
                case Scanner.NEW_WORD:
                case Scanner.OPEN_ROUND:
                case Scanner.OPEN_SQUARE:
                case Scanner.OPEN_BRACE: return true;
                default: return isPrefix(kind);
            }
        }

        private static boolean beginsStatement(int kind) {
            switch (kind) {
                case Scanner.SEMICOLON:
                case Scanner.VAR:
                case Scanner.IF:
                case Scanner.WHILE:
                case Scanner.DO:
                case Scanner.FOR:
                case Scanner.CONTINUE:
                case Scanner.BREAK:
                case Scanner.RETURN_WORD:
                case Scanner.THROW_WORD:
                case Scanner.TRY_WORD:
                case Scanner.SWITCH: return true;
                default: return kind != Scanner.FUNCTION_WORD && beginsExpression(kind);
            }
        }

        // ---- functions

        private void parts(int end) {
            for (int i = 0; i <= TAPE_LIMIT && !at(end); i++) {
                if (at(Scanner.FUNCTION_WORD)) {
                    declaration();
                } else {
                    statement();
                }
            }
        }

        private int newFunction() {
            int f = code.addFunction(function);
            if (f < 0) {
                draft.over = true;
            }
            return f;
        }

        private void addVariable(int f, int name) {
            if (!draft.over && f >= 0 && !code.addVariable(f, name)) {
                draft.over = true;
            }
        }

        private void declaration() {
            enter();
            int f = newFunction();
            scanner.advance();
            int name = expectName();
            if (function != 0) {
                addVariable(function, name);
            }
            if (f >= 0) {
                code.declared[f] = name;
            }
            functionRest(f, -1);
            leave();
        }

        private void functionLiteral() {
            enter();
            int f = newFunction();
            scanner.advance();
            int name = at(Scanner.WORD) ? expectName() : -1;
            functionRest(f, name);
            leave();
            draft.emit(FUNCTION, f, 0);
        }

        // From the ( on; a function that is one too many has the number -1.
        private void functionRest(int f, int own) {
            int outer = function;
            int outerLoops = loops;
            int outerSwitches = switches;
            boolean outerNoIn = noIn;
            parameterList(f);
            if (own >= 0 && f >= 0) {
                code.own[f] = own;
                addVariable(f, own);
            }
            expect(Scanner.OPEN_BRACE);
            function = f;
            loops = 0;
            switches = 0;
            noIn = false;
            draft.emit(Draft.BODY, f, 0);
            parts(Scanner.CLOSE_BRACE);
            draft.emit(Draft.END_BODY, f, 0);
            function = outer;
            loops = outerLoops;
            switches = outerSwitches;
            noIn = outerNoIn;
            scanner.advance();
        }

        private void parameterList(int f) {
            expect(Scanner.OPEN_ROUND);
            for (int i = 0; i < PARAMETER_LIMIT && !(i == 0 && at(Scanner.CLOSE_ROUND)); i++) {
                if (at(Scanner.WORD) && isParameter(i)) {
                    scanner.fail(3);
                }
                parameterFrom[i] = scanner.from;
                parameterTo[i] = scanner.end();
                addVariable(f, expectName());
                if (f >= 0) {
                    code.parameters[f] = i + 1;
                }
                if (i == PARAMETER_LIMIT - 1 || !at(Scanner.COMMA)) {
                    break;
                }
                scanner.advance();
            }
            expect(Scanner.CLOSE_ROUND);
        }

        // Whether the token is one of the first so many parameters.
        private boolean isParameter(int many) {
            int size = scanner.end() - scanner.from;
            for (int p = 0; p < many; p++) {
                boolean alike = parameterTo[p] - parameterFrom[p] == size;
                for (int i = 0; alike && i < size; i++) {
                    alike = tape[parameterFrom[p] + i] == tape[scanner.from + i];
                }
                if (alike) {
                    return true;
                }
            }
            return false;
        }

        // ---- statements

        private void statement() {
            int kind = scanner.kind;
            if (!beginsStatement(kind)) {
                scanner.fail(2);
            }
            if (isMisplaced(kind)) {
                scanner.fail(3);
            }
            enter();
            switch (kind) {
                case Scanner.OPEN_BRACE: block(); break;
                case Scanner.SEMICOLON: scanner.advance(); break;
                case Scanner.VAR: varStatement(); break;
                case Scanner.IF: ifStatement(); break;
                case Scanner.WHILE: whileStatement(); break;
                case Scanner.DO: doStatement(); break;
                case Scanner.FOR: forStatement(); break;
                case Scanner.CONTINUE: jumpStatement(Draft.CONTINUE); break;
                case Scanner.BREAK: jumpStatement(Draft.BREAK); break;
                case Scanner.RETURN_WORD: returnStatement(); break;
                case Scanner.THROW_WORD: throwStatement(); break;
                case Scanner.TRY_WORD: tryStatement(); break;
                case Scanner.SWITCH: switchStatement(); break;
                default:
                    expression();
                    draft.emit(DROP, 0, 0);
                    endStatement();
                    break;
            }
            leave();
        }

        private boolean isMisplaced(int kind) {
            if (kind == Scanner.BREAK) {
                return loops + switches == 0;
            }
            if (kind == Scanner.CONTINUE) {
                return loops == 0;
            }
            return kind == Scanner.RETURN_WORD && function == 0;
        }

        // The ; of a statement, which may be left out.
        private void endStatement() {
            if (at(Scanner.SEMICOLON)) {
                scanner.advance();
            } else if (!at(Scanner.CLOSE_BRACE) && !at(Scanner.END) && !scanner.onNewLine()) {
                scanner.fail(2);
            }
        }

        private void block() {
            expect(Scanner.OPEN_BRACE);
            for (int i = 0; i <= TAPE_LIMIT && !at(Scanner.CLOSE_BRACE); i++) {
                statement();
            }
            expect(Scanner.CLOSE_BRACE);
        }

        private void condition() {
            expect(Scanner.OPEN_ROUND);
            expression();
            expect(Scanner.CLOSE_ROUND);
        }

        private void varStatement() {
            scanner.advance();
            variableList(newVariable());
            endStatement();
        }

        private int newVariable() {
            int name = expectName();
            addVariable(function, name);
            return name;
        }

        // From behind the first name on.
        private void variableList(int first) {
            int name = first;
            for (int i = 0; i <= TAPE_LIMIT; i++) {
                if (at(Scanner.ASSIGN)) {
                    scanner.advance();
                    innerAssignment();
                    draft.emit(Draft.SET_NAME, name, 0);
                    draft.emit(DROP, 0, 0);
                }
                if (!at(Scanner.COMMA)) {
                    return;
                }
                scanner.advance();
                name = newVariable();
            }
        }

        private void ifStatement() {
            int otherwise = draft.newLabels(2);
            scanner.advance();
            condition();
            draft.emit(UNLESS, otherwise, 0);
            statement();
            if (at(Scanner.ELSE)) {
                draft.emit(JUMP, otherwise + 1, 0);
                draft.emit(Draft.LABEL, otherwise, 0);
                scanner.advance();
                statement();
                draft.emit(Draft.LABEL, otherwise + 1, 0);
            } else {
                draft.emit(Draft.LABEL, otherwise, 0);
            }
        }

        private void loopBody() {
            loops++;
            statement();
            loops--;
        }

        // The labels of a loop are its end, where continue goes, and perhaps its top.
        private void whileStatement() {
            int end = draft.newLabels(2);
            scanner.advance();
            draft.emit(Draft.LOOP, Draft.BACKWARD, end);
            draft.emit(Draft.LABEL, end + 1, 0);
            condition();
            draft.emit(UNLESS, end, 0);
            loopBody();
            endLoop(end, end + 1);
        }

        private void endLoop(int end, int top) {
            draft.emit(Draft.JUMP_BACK, top, 0);
            draft.emit(Draft.LABEL, end, 0);
            draft.emit(Draft.END_LOOP, 0, 0);
        }

        private void doStatement() {
            int end = draft.newLabels(3);
            scanner.advance();
            draft.emit(Draft.LOOP, Draft.FORWARD, end);
            draft.emit(Draft.LABEL, end + 2, 0);
            loopBody();
            draft.emit(Draft.LABEL, end + 1, 0);
            expect(Scanner.WHILE);
            condition();
            draft.emit(UNLESS, end, 0);
            endLoop(end, end + 2);
            if (at(Scanner.SEMICOLON)) {
                scanner.advance();
            }
        }

        private void forStatement() {
            scanner.advance();
            expect(Scanner.OPEN_ROUND);
            noIn = true;
            if (at(Scanner.VAR)) {
                scanner.advance();
                int name = newVariable();
                if (at(Scanner.IN)) {
                    forIn(name);
                    return;
                }
                variableList(name);
            } else if (!at(Scanner.SEMICOLON)) {
                int before = scanner.passed;
                openExpression();
                if (at(Scanner.IN) && left == ALONE && scanner.passed == before + 1) {
                    forIn(leftName);
                    return;
                }
                settle();
                draft.emit(DROP, 0, 0);
            }
            noIn = false;
            expect(Scanner.SEMICOLON);
            forRest();
        }

        // From behind the first ; of for on.
        private void forRest() {
            int end = draft.newLabels(3);
            draft.emit(Draft.LOOP, Draft.FORWARD, end);
            draft.emit(Draft.LABEL, end + 2, 0);
            if (!at(Scanner.SEMICOLON)) {
                expression();
                draft.emit(UNLESS, end, 0);
            }
            expect(Scanner.SEMICOLON);
            int step = draft.size;
            draft.emit(Draft.LABEL, end + 1, 0);
            if (!at(Scanner.CLOSE_ROUND)) {
                expression();
                draft.emit(DROP, 0, 0);
            }
            expect(Scanner.CLOSE_ROUND);
            int body = draft.size;
            loopBody();
            draft.rotate(step, body);
            endLoop(end, end + 2);
        }

        // From the word in on.
        private void forIn(int name) {
            int end = draft.newLabels(2);
            noIn = false;
            scanner.advance();
            expression();
            expect(Scanner.CLOSE_ROUND);
            draft.emit(NAMES_OF, 0, 0);
            draft.emit(Draft.LOOP, Draft.FOR_IN, end);
            draft.emit(Draft.LABEL, end + 1, 0);
            draft.emit(NEXT, end, 0);
            draft.emit(Draft.SET_NAME, name, 0);
            draft.emit(DROP, 0, 0);
            loopBody();
            endLoop(end, end + 1);
        }

        private void jumpStatement(int what) {
            draft.emit(what, 0, 0);
            scanner.advance();
            endStatement();
        }

        private void returnStatement() {
            scanner.advance();
            if (at(Scanner.SEMICOLON) || at(Scanner.CLOSE_BRACE) || scanner.onNewLine()) {
                draft.emit(CONSTANT, UNDEFINED, 0);
            } else {
                expression();
            }
            draft.emit(Draft.GO_BACK, 0, 0);
            endStatement();
        }

        private void throwStatement() {
            scanner.advance();
            if (scanner.onNewLine()) {
                scanner.fail(2);
            }
            expression();
            draft.emit(THROW, 0, 0);
            endStatement();
        }

        private void tryStatement() {
            int start = draft.size;
            scanner.advance();
            block();
            boolean caught = at(Scanner.CATCH);
            if (caught) {
                catchPart(start);
            }
            if (at(Scanner.FINALLY)) {
                finallyPart(start);
            } else if (!caught) {
                scanner.fail(2);
            }
        }

        private void catchPart(int start) {
            int handler = draft.newLabels(2);
            scanner.advance();
            draft.insert(start, Draft.OPEN_TRY, handler, -1);
            draft.emit(Draft.CLOSE_TRY, 0, 0);
            draft.emit(JUMP, handler + 1, 0);
            draft.emit(Draft.LABEL, handler, 0);
            expect(Scanner.OPEN_ROUND);
            draft.emit(Draft.SET_NAME, newVariable(), 0);
            draft.emit(DROP, 0, 0);
            expect(Scanner.CLOSE_ROUND);
            block();
            draft.emit(Draft.LABEL, handler + 1, 0);
        }

        private void finallyPart(int start) {
            int handler = draft.newLabels(2);
            int number = draft.newFinal();
            scanner.advance();
            draft.insert(start, Draft.OPEN_TRY, handler, number);
            draft.emit(Draft.CLOSE_TRY, 0, 0);
            draft.emit(Draft.FINAL, number, 0);
            block();
            draft.emit(Draft.END_FINAL, number, handler);
        }

        private void switchStatement() {
            int end = draft.newLabels(1);
            int byDefault = -1;
            scanner.advance();
            draft.emit(Draft.LOOP, Draft.CASES, end);
            condition();
            expect(Scanner.OPEN_BRACE);
            // the tests come ahead of all statements
            int tests = draft.size;
            for (int i = 0; i <= TAPE_LIMIT && !at(Scanner.CLOSE_BRACE); i++) {
                if (at(Scanner.CASE)) {
                    tests = caseTest(tests);
                } else if (at(Scanner.DEFAULT)) {
                    if (byDefault >= 0) {
                        scanner.fail(3);
                    }
                    scanner.advance();
                    expect(Scanner.COLON);
                    byDefault = draft.newLabels(1);
                    draft.emit(Draft.LABEL, byDefault, 0);
                } else {
                    scanner.fail(2);
                }
                caseStatements();
            }
            scanner.advance();
            int rest = draft.size;
            draft.emit(DROP, 0, 0);
            draft.emit(JUMP, byDefault >= 0 ? byDefault : end, 0);
            draft.rotate(tests, rest);
            draft.emit(Draft.LABEL, end, 0);
            draft.emit(Draft.END_LOOP, 0, 0);
        }

        // Where the tests end with this one.
        private int caseTest(int tests) {
            int label = draft.newLabels(2);
            int from = draft.size;
            scanner.advance();
            draft.emit(COPY, 0, 0);
            expression();
            expect(Scanner.COLON);
            draft.emit(BINARY, 13, 0);
            draft.emit(UNLESS, label, 0);
            draft.emit(DROP, 0, 0);
            draft.emit(JUMP, label + 1, 0);
            draft.emit(Draft.LABEL, label, 0);
            int size = draft.size - from;
            draft.rotate(tests, from);
            draft.emit(Draft.LABEL, label + 1, 0);
            return tests + size;
        }

        private void caseStatements() {
            switches++;
            for (int i = 0; i <= TAPE_LIMIT && !at(Scanner.CASE) && !at(Scanner.DEFAULT) && !at(Scanner.CLOSE_BRACE); i++) {
                statement();
            }
            switches--;
        }

        // ---- expressions

        // The value of what the latest unit left.
        private void settle() {
            if (left == ALONE) {
                draft.emit(Draft.GET_NAME, leftName, 0);
            } else if (left == MEMBER) {
                draft.emit(GET, 0, 0);
            }
            left = VALUE;
        }

        private void expression() {
            openExpression();
            settle();
        }

        private void openExpression() {
            assignment();
            for (int i = 0; i <= TAPE_LIMIT && at(Scanner.COMMA); i++) {
                settle();
                draft.emit(DROP, 0, 0);
                scanner.advance();
                assignment();
            }
        }

        // An A behind a sign of assignment or of a choice.
        private void innerAssignment() {
            if (!beginsExpression(scanner.kind)) {
                scanner.fail(2);
            }
            enter();
            assignment();
            settle();
            leave();
        }

        private void assignment() {
            choice();
            int kind = scanner.kind;
            if (kind < Scanner.ASSIGN || kind > Scanner.LAST_ASSIGN) {
                return;
            }
            if (left == VALUE) {
                scanner.fail(3);
            }
            int target = left;
            int name = leftName;
            if (kind != Scanner.ASSIGN) {
                fetch(target, name);
            }
            scanner.advance();
            innerAssignment();
            if (kind != Scanner.ASSIGN) {
                draft.emit(BINARY, kind - Scanner.ASSIGN - 1, 0);
            }
            store(target, name);
            left = VALUE;
        }

        // The value of a target, which stays one.
        private void fetch(int target, int name) {
            if (target == ALONE) {
                draft.emit(Draft.GET_NAME, name, 0);
            } else {
                draft.emit(COPY_TWO, 0, 0);
                draft.emit(GET, 0, 0);
            }
        }

        private void store(int target, int name) {
            if (target == ALONE) {
                draft.emit(Draft.SET_NAME, name, 0);
            } else {
                draft.emit(PUT, 0, 0);
            }
        }

        private void choice() {
            operation();
            if (!at(Scanner.QUESTION)) {
                return;
            }
            settle();
            int otherwise = draft.newLabels(2);
            draft.emit(UNLESS, otherwise, 0);
            scanner.advance();
            innerAssignment();
            draft.emit(JUMP, otherwise + 1, 0);
            draft.emit(Draft.LABEL, otherwise, 0);
            expect(Scanner.COLON);
            innerAssignment();
            draft.emit(Draft.LABEL, otherwise + 1, 0);
        }

        private int binding() {
            int kind = scanner.kind;
            if (kind == Scanner.IN) {
                return noIn ? 0 : 7;
            }
            if (kind == Scanner.INSTANCEOF) {
                return 7;
            }
            return kind >= Scanner.LESS && kind <= Scanner.OR_OR ? BINDING[kind - Scanner.LESS] : 0;
        }

        private int signOf(int kind) {
            if (kind == Scanner.IN) {
                return 19;
            }
            if (kind == Scanner.INSTANCEOF) {
                return 20;
            }
            return kind >= Scanner.LESS && kind <= Scanner.OR_OR ? SIGN[kind - Scanner.LESS] : 0;
        }

        // Units with signs between.
        private void operation() {
            int base = pendingCount;
            unit();
            for (int i = 0; i <= TAPE_LIMIT && binding() > 0; i++) {
                int tight = binding();
                int sign = signOf(scanner.kind);
                settle();
                finish(base, tight);
                if (tight <= 2) {
                    sign = draft.newLabels(1);
                    draft.emit(tight == 2 ? AND : OR, sign, 0);
                }
                if (pendingCount < PENDING_LIMIT) {
                    pending[2 * pendingCount] = tight;
                    pending[2 * pendingCount + 1] = sign;
                    pendingCount++;
                }
                scanner.advance();
                unit();
            }
            if (pendingCount > base) {
                settle();
                finish(base, 0);
            }
        }

        // Ends the pending signs that bind at least so tightly.
        private void finish(int base, int tight) {
            for (int i = 0; i < PENDING_LIMIT && pendingCount > base && pending[2 * pendingCount - 2] >= tight; i++) {
                pendingCount--;
                int sign = pending[2 * pendingCount + 1];
                if (pending[2 * pendingCount] <= 2) {
                    draft.emit(Draft.LABEL, sign, 0);
                } else {
                    draft.emit(BINARY, sign, 0);
                }
            }
        }

        private void unit() {
            int kind = scanner.kind;
            if (!isPrefix(kind)) {
                leftSide();
                return;
            }
            enter();
            scanner.advance();
            unit();
            leave();
            prefix(kind);
            left = VALUE;
        }

        private void prefix(int kind) {
            if (kind == Scanner.INCREMENT || kind == Scanner.DECREMENT) {
                if (left == VALUE) {
                    scanner.fail(3);
                }
                fetch(left, leftName);
                draft.emit(UNARY, 0, 0);
                draft.emit(CONSTANT, NUMBER, 1);
                draft.emit(BINARY, kind == Scanner.INCREMENT ? 0 : 1, 0);
                store(left, leftName);
            } else if (kind == Scanner.DELETE_SIGN) {
                if (left != MEMBER) {
                    scanner.fail(3);
                }
                draft.emit(DELETE, 0, 0);
            } else if (kind == Scanner.TYPEOF && left == ALONE) {
                draft.emit(Draft.TYPE_NAME, leftName, 0);
            } else if (kind == Scanner.VOID) {
                settle();
                draft.emit(DROP, 0, 0);
                draft.emit(CONSTANT, UNDEFINED, 0);
            } else {
                settle();
                draft.emit(UNARY, unarySign(kind), 0);
            }
        }

        private static int unarySign(int kind) {
            switch (kind) {
                case Scanner.PLUS: return 0;
                case Scanner.MINUS: return 1;
                case Scanner.TILDE: return 2;
                case Scanner.NOT: return 3;
                default: return 4;
            }
        }

        private void leftSide() {
            int start = draft.size;
            if (at(Scanner.NEW_WORD)) {
                construction();
            } else {
                primary();
            }
            for (int i = 0; i <= TAPE_LIMIT; i++) {
                if (at(Scanner.OPEN_ROUND)) {
                    callPart(start);
                } else if (!memberPart()) {
                    break;
                }
            }
            if ((at(Scanner.INCREMENT) || at(Scanner.DECREMENT)) && !scanner.onNewLine()) {
                postfix();
            }
        }

        private void postfix() {
            int sign = at(Scanner.INCREMENT) ? 0 : 1;
            if (left == VALUE) {
                scanner.fail(3);
            }
            fetch(left, leftName);
            draft.emit(UNARY, 0, 0);
            draft.emit(left == ALONE ? COPY : UNDER, 0, 0);
            draft.emit(CONSTANT, NUMBER, 1);
            draft.emit(BINARY, sign, 0);
            store(left, leftName);
            draft.emit(DROP, 0, 0);
            left = VALUE;
            scanner.advance();
        }

        // Whether . name or [ E ] stood here.
        private boolean memberPart() {
            if (at(Scanner.DOT)) {
                settle();
                int key = draft.size;
                scanner.advance();
                draft.emit(CONSTANT, STRING, expectWord());
                becomeMember(key);
                return true;
            }
            if (!at(Scanner.OPEN_SQUARE)) {
                return false;
            }
            settle();
            int key = draft.size;
            boolean outer = openBracket();
            expression();
            closeBracket(Scanner.CLOSE_SQUARE, outer);
            becomeMember(key);
            return true;
        }

        private void becomeMember(int key) {
            left = MEMBER;
            leftKey = key;
        }

        // Whether "in" was no sign outside of the bracket.
        private boolean openBracket() {
            enter();
            boolean outer = noIn;
            noIn = false;
            scanner.advance();
            return outer;
        }

        private void closeBracket(int kind, boolean outer) {
            expect(kind);
            noIn = outer;
            leave();
        }

        // The ( of a call, whose function's code begins at start.
        private void callPart(int start) {
            if (left == MEMBER) {
                draft.insert(leftKey, COPY, 0, 0);
                settle();
            } else {
                settle();
                draft.insert(start, CONSTANT, UNDEFINED, 0);
            }
            draft.emit(CALL, arguments(), 0);
            left = VALUE;
        }

        private int arguments() {
            boolean outer = openBracket();
            int many = items(Scanner.CLOSE_ROUND, PARAMETER_LIMIT);
            closeBracket(Scanner.CLOSE_ROUND, outer);
            return many;
        }

        // So many As with commas, perhaps none.
        private int items(int end, int limit) {
            if (at(end)) {
                return 0;
            }
            for (int many = 1; many <= limit; many++) {
                if (end == Scanner.CLOSE_SQUARE) {
                    draft.emit(COPY, 0, 0);
                    draft.emit(CONSTANT, NUMBER, many - 1);
                }
                assignment();
                settle();
                if (end == Scanner.CLOSE_SQUARE) {
                    draft.emit(PUT, 0, 0);
                    draft.emit(DROP, 0, 0);
                }
                if (many == limit || !at(Scanner.COMMA)) {
                    return many;
                }
                scanner.advance();
            }
            return limit;
        }

        private void construction() {
            enter();
            scanner.advance();
            if (at(Scanner.NEW_WORD)) {
                construction();
            } else {
                primary();
            }
            for (int i = 0; i <= TAPE_LIMIT && memberPart(); i++) {
                leftKey = 0;
            }
            settle();
            int many = at(Scanner.OPEN_ROUND) ? arguments() : 0;
            draft.emit(NEW, many, 0);
            leave();
            left = VALUE;
        }

        private void primary() {
            int kind = scanner.kind;
            left = VALUE;
            switch (kind) {
                case Scanner.WORD:
                    leftName = expectName();
                    left = ALONE;
                    return;
                case Scanner.DIGITS: draft.emit(CONSTANT, NUMBER, scanner.number); break;
                case Scanner.QUOTED: draft.emit(CONSTANT, STRING, quoteName()); break;
                case Scanner.THIS_WORD: draft.emit(THIS, 0, 0); break;
                case Scanner.TRUE_WORD: draft.emit(CONSTANT, TRUE, 0); break;
                case Scanner.FALSE_WORD: draft.emit(CONSTANT, FALSE, 0); break;
                case Scanner.NULL_WORD: draft.emit(CONSTANT, NULL, 0); break;
                case Scanner.UNDEFINED_WORD: draft.emit(CONSTANT, UNDEFINED, 0); break;
                case Scanner.NAN_WORD: draft.emit(CONSTANT, NAN, 0); break;
                case Scanner.OPEN_ROUND: bracketed(); return;
                case Scanner.OPEN_SQUARE: arrayLiteral(); return;
                case Scanner.OPEN_BRACE: objectLiteral(); return;
                case Scanner.FUNCTION_WORD: functionLiteral(); left = VALUE; return;
                default: scanner.fail(2); return;
            }
            scanner.advance();
        }

        private void bracketed() {
            boolean outer = openBracket();
            expression();
            closeBracket(Scanner.CLOSE_ROUND, outer);
        }

        private void arrayLiteral() {
            draft.emit(ARRAY, 0, 0);
            boolean outer = openBracket();
            items(Scanner.CLOSE_SQUARE, ITEM_LIMIT);
            closeBracket(Scanner.CLOSE_SQUARE, outer);
        }

        private void objectLiteral() {
            draft.emit(OBJECT, 0, 0);
            boolean outer = openBracket();
            for (int i = 0; i < ITEM_LIMIT && !(i == 0 && at(Scanner.CLOSE_BRACE)); i++) {
                draft.emit(COPY, 0, 0);
                draft.emit(CONSTANT, STRING, expectKey());
                expect(Scanner.COLON);
                assignment();
                settle();
                draft.emit(PUT, 0, 0);
                draft.emit(DROP, 0, 0);
                if (i == ITEM_LIMIT - 1 || !at(Scanner.COMMA)) {
                    break;
                }
                scanner.advance();
            }
            closeBracket(Scanner.CLOSE_BRACE, outer);
        }
    }

    /** The objects of the machine, with their properties. */
    private static final class Heap {
        private static final int OBJECTS = 300;
        private static final int PROPERTIES = 3000;
        // the ints of an object
        private static final int SIZE = 8;
        private static final int PROTO = 0;
        private static final int LINK = 1;
        private static final int LABEL = 2;
        private static final int SORT = 3;
        private static final int BODY = 4;
        private static final int FIRST = 5;
        private static final int LAST = 6;
        private static final int MANY = 7;
        // the ints of a property
        private static final int WIDTH = 5;
        private static final int KEY = 0;
        private static final int KIND = 1;
        private static final int DATA = 2;
        private static final int AFTER = 3;
        private static final int SERIAL = 4;

        private final int[] objects = new int[SIZE * OBJECTS];
        private final int[] properties = new int[WIDTH * PROPERTIES];
        private final int[] latest = new int[LABEL_LIMIT];
        int count;
        // properties that have been used, the first of those that are free again, and how many came
        private int used;
        private int free;
        private int came;

        void clear() {
            count = 0;
            used = 0;
            free = -1;
            came = 0;
            Arrays.fill(latest, -1);
            makeFirst();
        }

        private void makeFirst() {
            for (int o = 0; o < FIRST_PROTOS.length; o++) {
                make(o, FIRST_PROTOS[o], o < PRINT ? PLAIN : CALLABLE);
            }
            for (int i = 0; i + 3 < FIRST_PROPERTIES.length; i += 4) {
                set(FIRST_PROPERTIES[i], FIRST_PROPERTIES[i + 1], FIRST_PROPERTIES[i + 2], FIRST_PROPERTIES[i + 3]);
            }
        }

        boolean has(int o) {
            return o >= 0 && o < count;
        }

        int make(int label, int proto, int sort) {
            if (count >= OBJECTS) {
                throw new UnsupportedOperationException("no room");
            }
            int o = count;
            int at = SIZE * o;
            objects[at + PROTO] = proto;
            objects[at + LINK] = NONE;
            objects[at + LABEL] = label;
            objects[at + SORT] = sort;
            objects[at + BODY] = 0;
            objects[at + FIRST] = -1;
            objects[at + LAST] = -1;
            objects[at + MANY] = 0;
            if (label >= 0 && label < LABEL_LIMIT) {
                latest[label] = o;
            }
            count++;
            return o;
        }

        int makeArray(int label) {
            int o = make(label, ARRAY_PROTO, ARRAY_SORT);
            set(o, LENGTH, NUMBER, 0);
            return o;
        }

        // Of a pair the older label, if a later object of it was made.
        int label(int o) {
            int label = objects[SIZE * o + LABEL];
            boolean paired = label >= FIRST_LABELS && label < LABEL_LIMIT;
            return paired && latest[label] != o ? label + 1 : label;
        }

        int proto(int o) {
            return has(o) ? objects[SIZE * o + PROTO] : NONE;
        }

        int linkOf(int o) {
            return has(o) ? objects[SIZE * o + LINK] : NONE;
        }

        void setLink(int o, int scope) {
            if (has(o)) {
                objects[SIZE * o + LINK] = scope;
            }
        }

        int sort(int o) {
            return has(o) ? objects[SIZE * o + SORT] : PLAIN;
        }

        // The function of code that the object is, or 0.
        int body(int o) {
            return has(o) ? objects[SIZE * o + BODY] : 0;
        }

        void setBody(int o, int f) {
            if (has(o)) {
                objects[SIZE * o + BODY] = f;
            }
        }

        int many(int o) {
            return has(o) ? objects[SIZE * o + MANY] : 0;
        }

        boolean isArray(int o) {
            return o >= 0 && o < count && objects[SIZE * o + SORT] == ARRAY_SORT;
        }

        int firstProperty(int o) {
            return o >= 0 && o < count ? objects[SIZE * o + FIRST] : -1;
        }

        int after(int p) {
            return properties[WIDTH * p + AFTER];
        }

        int key(int p) {
            return properties[WIDTH * p + KEY];
        }

        int kind(int p) {
            return properties[WIDTH * p + KIND];
        }

        int data(int p) {
            return properties[WIDTH * p + DATA];
        }

        int serial(int p) {
            return properties[WIDTH * p + SERIAL];
        }

        int serials() {
            return came;
        }

        // The object's own property of that name, or -1.
        int find(int o, int name) {
            int p = o >= 0 && o < count ? objects[SIZE * o + FIRST] : -1;
            for (int i = 0; i < PROPERTIES && p >= 0; i++) {
                if (properties[WIDTH * p + KEY] == name) {
                    return p;
                }
                p = properties[WIDTH * p + AFTER];
            }
            return -1;
        }

        // The property of that name of the object, its PROTO, and so on, or -1.
        int search(int o, int name) {
            int at = o;
            for (int i = 0; i < OBJECTS && at >= 0; i++) {
                int p = find(at, name);
                if (p >= 0) {
                    return p;
                }
                at = proto(at);
            }
            return -1;
        }

        void set(int o, int name, int kind, int data) {
            if (!has(o)) {
                return;
            }
            int p = find(o, name);
            if (p < 0) {
                p = append(o, name);
            }
            properties[WIDTH * p + KIND] = kind;
            properties[WIDTH * p + DATA] = data;
        }

        private int append(int o, int name) {
            int p = free;
            if (p >= 0) {
                free = properties[WIDTH * p + AFTER];
            } else if (used < PROPERTIES) {
                p = used;
                used++;
            } else {
                throw new UnsupportedOperationException("no room");
            }
            properties[WIDTH * p + KEY] = name;
            properties[WIDTH * p + AFTER] = -1;
            properties[WIDTH * p + SERIAL] = came;
            came++;
            int last = objects[SIZE * o + LAST];
            if (last >= 0) {
                properties[WIDTH * last + AFTER] = p;
            } else {
                objects[SIZE * o + FIRST] = p;
            }
            objects[SIZE * o + LAST] = p;
            objects[SIZE * o + MANY]++;
            return p;
        }

        void remove(int o, int name) {
            int before = -1;
            int p = firstProperty(o);
            for (int i = 0; i < PROPERTIES && p >= 0 && key(p) != name; i++) {
                before = p;
                p = after(p);
            }
            if (p < 0) {
                return;
            }
            if (before >= 0) {
                properties[WIDTH * before + AFTER] = after(p);
            } else {
                objects[SIZE * o + FIRST] = after(p);
            }
            if (objects[SIZE * o + LAST] == p) {
                objects[SIZE * o + LAST] = before;
            }
            objects[SIZE * o + MANY]--;
            properties[WIDTH * p + AFTER] = free;
            free = p;
        }
    }

    /** Runs the code, step by step. */
    private static final class Machine {
        private static final int NOT_BEGUN = 0;
        private static final int GOES_ON = 1;
        private static final int ENDED = 2;
        private static final int UNCAUGHT = 3;
        private static final int NO_ROOM = 4;
        private static final int LINES = 100;
        private static final int FRAMES = 24;
        private static final int ARRAY_LIMIT = 100;
        // two of a try in another, at most 20 deep
        private static final int TRIES_LIMIT = 40 * FRAMES;
        // the ints of a frame; MADE is the object that NEW made, or -1
        private static final int SIZE = 8;
        private static final int BODY = 0;
        private static final int PLACE = 1;
        private static final int OWN_SCOPE = 2;
        private static final int BASE = 3;
        private static final int TRIES = 4;
        private static final int THIS_KIND = 5;
        private static final int THIS_DATA = 6;
        private static final int MADE = 7;
        // the ints of a value on the stack; of a LIST the data is its object, and it has the properties
        // that came behind the serial DONE and ahead of the serial END
        private static final int WIDTH = 4;
        private static final int KIND = 0;
        private static final int DATA = 1;
        private static final int DONE = 2;
        private static final int END = 3;

        private final Code code;
        private final Texts texts;
        private final Heap heap = new Heap();
        private int state;
        private int steps;
        private final int[] frames = new int[SIZE * FRAMES];
        private int frameCount;
        // the latest frame, as an index into frames
        private int now;
        private final int[] stack = new int[WIDTH * FRAMES * HEIGHT_LIMIT];
        private int top;
        // of each open TRY its a, and how many values its frame's stack had
        private final int[] tries = new int[2 * TRIES_LIMIT];
        private int tryCount;
        private final int[] lines = new int[LINES];
        private int lineCount;
        private int thrownKind;
        private int thrownData;

        Machine(Code code, Texts texts) {
            this.code = code;
            this.texts = texts;
        }

        void forget() {
            state = NOT_BEGUN;
            frameCount = 0;
        }

        void start() {
            texts.cutTo(texts.names);
            heap.clear();
            state = GOES_ON;
            steps = 0;
            top = 0;
            tryCount = 0;
            lineCount = 0;
            frameCount = 0;
            openFrame(0, NONE, UNDEFINED, 0, NONE);
        }

        boolean goesOn() {
            return state == GOES_ON;
        }

        int amount(int what) {
            if (state == NOT_BEGUN) {
                return 0;
            }
            switch (what) {
                case 6: return state;
                case 7: return steps;
                case 8: return heap.count;
                case 9: return texts.count;
                case 10: return lineCount;
                default: return frameCount;
            }
        }

        // ---- what can be looked at

        // The frame's ints begin here; -1 if there is no such frame.
        private int frameAt(int i) {
            return state != NOT_BEGUN && i >= 0 && i < frameCount ? SIZE * (frameCount - 1 - i) : -1;
        }

        // Where the frame's own end: its values (BASE) or its tries (TRIES).
        private int frameEnd(int at, int what, int whole) {
            return at + SIZE < SIZE * frameCount ? frames[at + SIZE + what] : whole;
        }

        int frameFact(int i, int what) {
            int at = frameAt(i);
            if (at < 0) {
                return NONE;
            }
            switch (what) {
                case 0: return frames[at + BODY];
                case 1: return frames[at + PLACE];
                case 2: return frameEnd(at, BASE, top) - frames[at + BASE];
                case 3: return frames[at + OWN_SCOPE];
                case 4: return frameEnd(at, TRIES, tryCount) - frames[at + TRIES];
                default: return NONE;
            }
        }

        int valueFact(int i, int k, int what) {
            int at = frameAt(i);
            if (at < 0 || k < -1) {
                return NONE;
            }
            if (k == -1) {
                return fact(frames[at + THIS_KIND], frames[at + THIS_DATA], what);
            }
            int base = frames[at + BASE];
            if (k >= frameEnd(at, BASE, top) - base) {
                return NONE;
            }
            int v = base + k;
            return fact(kindAt(v), kindAt(v) == LIST && what == 1 ? listLeft(v) : dataAt(v), what);
        }

        private int fact(int kind, int data, int what) {
            if (what == 0) {
                return kind;
            }
            if (what != 1) {
                return NONE;
            }
            return kind >= NUMBER ? data : 0;
        }

        private int listLeft(int v) {
            int left = 0;
            int p = isPlace(v) ? listNext(v, stack[WIDTH * v + DONE]) : -1;
            for (int i = 0; i < Heap.PROPERTIES && p >= 0; i++) {
                left++;
                p = listNext(v, heap.serial(p));
            }
            return left;
        }

        int objectFact(int o, int what) {
            if (state == NOT_BEGUN || !heap.has(o)) {
                return NONE;
            }
            switch (what) {
                case 0: return heap.label(o);
                case 1: return heap.proto(o);
                case 2: return heap.linkOf(o);
                case 3: return heap.many(o);
                case 4: return heap.sort(o);
                default: return NONE;
            }
        }

        int propertyFact(int o, int k, int what) {
            if (state == NOT_BEGUN || k < 0 || k >= heap.many(o)) {
                return NONE;
            }
            int p = heap.firstProperty(o);
            for (int i = 0; i < k && p >= 0; i++) {
                p = heap.after(p);
            }
            if (p < 0 || what < 0 || what > 2) {
                return NONE;
            }
            return what == 0 ? heap.key(p) : fact(heap.kind(p), heap.data(p), what - 1);
        }

        int printedSign(int i, int k) {
            if (state == NOT_BEGUN || i < 0 || i >= lineCount) {
                return NONE;
            }
            return k == -1 ? lines[i] : texts.sign(lines[i], k);
        }

        int uncaughtFact(int what) {
            return state == UNCAUGHT ? fact(thrownKind, thrownData, what) : NONE;
        }

        // ---- the stack and the frames

        private boolean isPlace(int v) {
            return v >= 0 && WIDTH * v + END < stack.length;
        }

        private int kindAt(int v) {
            return isPlace(v) ? stack[WIDTH * v + KIND] : UNDEFINED;
        }

        private int dataAt(int v) {
            return isPlace(v) ? stack[WIDTH * v + DATA] : 0;
        }

        private void put(int v, int kind, int data) {
            if (v >= 0 && WIDTH * v + END < stack.length) {
                stack[WIDTH * v + KIND] = kind;
                stack[WIDTH * v + DATA] = data;
            }
        }

        private void push(int kind, int data) {
            int at = WIDTH * top;
            if (top >= 0 && at + END < stack.length) {
                stack[at + KIND] = kind;
                stack[at + DATA] = data;
                top++;
            }
        }

        private void pushCopy(int v) {
            push(kindAt(v), dataAt(v));
        }

        // The place of the latest frame, and it goes on behind it.
        private void goNext() {
            frames[now + PLACE]++;
        }

        private void goTo(int place) {
            frames[now + PLACE] = place;
        }

        // In place of so many values this one; then on.
        private void replace(int many, int kind, int data) {
            top -= many;
            push(kind, data);
            goNext();
        }

        private void openFrame(int body, int scope, int thisKind, int thisData, int made) {
            now = SIZE * frameCount;
            frameCount++;
            frames[now + BODY] = body;
            frames[now + PLACE] = code.first[body];
            frames[now + OWN_SCOPE] = scope;
            frames[now + BASE] = top;
            frames[now + TRIES] = tryCount;
            frames[now + THIS_KIND] = thisKind;
            frames[now + THIS_DATA] = thisData;
            frames[now + MADE] = made;
        }

        private void closeFrame() {
            top = frames[now + BASE];
            tryCount = frames[now + TRIES];
            frameCount--;
            now = Math.max(0, SIZE * (frameCount - 1));
        }

        // ---- steps

        int go(int n) {
            int done = 0;
            for (int i = 0; i < n && state == GOES_ON; i++) {
                done++;
                steps++;
                try {
                    step();
                } catch (UnsupportedOperationException e) {
                    state = NO_ROOM;
                }
            }
            return done;
        }

        // Nothing that can be looked at changes before all is made that may find no room.
        private void step() {
            int k = frames[now + PLACE];
            if (k < 0 || k >= code.count) {
                return;
            }
            int a = code.a[k];
            int b = code.b[k];
            int op = code.op[k];
            if (op <= FUNCTION) {
                stepValue(op, a, b);
            } else if (op <= BINARY) {
                stepSign(op, a);
            } else if (op == CALL) {
                stepCall(top - a - 2, top - a - 1, top - a - 2, top - a, a);
            } else if (op == NEW) {
                stepNew(a, b);
            } else if (op <= UNDER) {
                stepStack(op);
            } else {
                stepFlow(op, a);
            }
        }

        private void stepValue(int op, int a, int b) {
            switch (op) {
                case CONSTANT: replace(0, a, b); break;
                case LOAD: load(scopeOf(a), b); break;
                case STORE:
                    heap.set(scopeOf(a), b, kindAt(top - 1), dataAt(top - 1));
                    goNext();
                    break;
                case GLOBAL:
                    if (heap.find(0, b) < 0) {
                        fail(REFERENCE_ERROR);
                    } else {
                        load(0, b);
                    }
                    break;
                case SET_GLOBAL:
                    heap.set(0, b, kindAt(top - 1), dataAt(top - 1));
                    goNext();
                    break;
                case TYPE_GLOBAL: typeOfGlobal(heap.find(0, b)); break;
                case THIS: replace(0, frames[now + THIS_KIND], frames[now + THIS_DATA]); break;
                case OBJECT: replace(0, THING, heap.make(code.siteLabel(a), FIRST_PROTO, PLAIN)); break;
                case ARRAY: replace(0, THING, heap.makeArray(code.siteLabel(a))); break;
                default: replace(0, THING, makeFunction(a)); break;
            }
        }

        private int scopeOf(int far) {
            int scope = frames[now + OWN_SCOPE];
            for (int i = 0; i < far; i++) {
                scope = heap.linkOf(scope);
            }
            return scope;
        }

        private void load(int o, int name) {
            int p = heap.find(o, name);
            if (p < 0) {
                replace(0, UNDEFINED, 0);
            } else {
                replace(0, heap.kind(p), heap.data(p));
            }
        }

        private void typeOfGlobal(int p) {
            replace(0, STRING, p < 0 ? N_UNDEFINED : typeName(heap.kind(p), heap.data(p)));
        }

        private int typeName(int kind, int data) {
            return kind == THING && heap.sort(data) == CALLABLE ? N_FUNCTION : texts.typeName(kind);
        }

        private int makeFunction(int f) {
            int o = heap.make(code.functionLabel(f), FUNCTION_PROTO, CALLABLE);
            heap.setBody(o, f);
            heap.setLink(o, frames[now + OWN_SCOPE]);
            int prototype = heap.make(code.prototypeLabel(f), FIRST_PROTO, PLAIN);
            heap.set(o, PROTOTYPE, THING, prototype);
            heap.set(prototype, CONSTRUCTOR, THING, o);
            return o;
        }

        private void stepSign(int op, int a) {
            switch (op) {
                case GET: get(); break;
                case PUT: store(); break;
                case DELETE: delete(); break;
                case UNARY:
                    if (a == 4) {
                        replace(1, STRING, typeName(kindAt(top - 1), dataAt(top - 1)));
                    } else {
                        texts.unary(a, kindAt(top - 1), dataAt(top - 1));
                        replace(1, texts.kind, texts.data);
                    }
                    break;
                default:
                    if (a == 19) {
                        isIn();
                    } else if (a == 20) {
                        isInstance();
                    } else {
                        texts.binary(a, kindAt(top - 2), dataAt(top - 2), kindAt(top - 1), dataAt(top - 1));
                        replace(2, texts.kind, texts.kind == STRING ? texts.make() : texts.data);
                    }
                    break;
            }
        }

        private void get() {
            int name = texts.textOf(kindAt(top - 1), dataAt(top - 1));
            int kind = kindAt(top - 2);
            int data = dataAt(top - 2);
            if (kind <= NULL) {
                fail(TYPE_ERROR);
            } else if (kind == STRING && name == LENGTH) {
                replace(2, NUMBER, texts.lengthOf(data));
            } else {
                int p = kind == THING || kind == STRING ? heap.search(kind == THING ? data : STRING_PROTO, name) : -1;
                replace(2, p < 0 ? UNDEFINED : heap.kind(p), p < 0 ? 0 : heap.data(p));
            }
        }

        private void store() {
            int name = texts.textOf(kindAt(top - 2), dataAt(top - 2));
            int kind = kindAt(top - 3);
            int o = dataAt(top - 3);
            if (kind <= NULL) {
                fail(TYPE_ERROR);
                return;
            }
            int valueKind = kindAt(top - 1);
            int valueData = dataAt(top - 1);
            if (kind == THING && !(name == LENGTH && heap.isArray(o))) {
                heap.set(o, name, valueKind, valueData);
                long index = heap.isArray(o) ? texts.writtenInt(name) : -1;
                if (index >= 0 && index < ARRAY_LIMIT && index >= lengthOf(o)) {
                    heap.set(o, LENGTH, NUMBER, (int) index + 1);
                }
            }
            replace(3, valueKind, valueData);
        }

        private int lengthOf(int o) {
            int p = heap.find(o, LENGTH);
            return p < 0 ? 0 : heap.data(p);
        }

        private void delete() {
            int name = texts.textOf(kindAt(top - 1), dataAt(top - 1));
            int kind = kindAt(top - 2);
            int o = dataAt(top - 2);
            if (kind <= NULL) {
                fail(TYPE_ERROR);
            } else if (kind == THING && name == LENGTH && heap.isArray(o)) {
                replace(2, FALSE, 0);
            } else {
                if (kind == THING) {
                    heap.remove(o, name);
                }
                replace(2, TRUE, 0);
            }
        }

        private void answer(int many, boolean holds) {
            replace(many, holds ? TRUE : FALSE, 0);
        }

        private void isIn() {
            int name = texts.textOf(kindAt(top - 2), dataAt(top - 2));
            if (kindAt(top - 1) != THING) {
                fail(TYPE_ERROR);
            } else {
                answer(2, heap.search(dataAt(top - 1), name) >= 0);
            }
        }

        private void isInstance() {
            int f = dataAt(top - 1);
            boolean callable = kindAt(top - 1) == THING && heap.sort(f) == CALLABLE;
            int p = callable ? heap.search(f, PROTOTYPE) : -1;
            if (p < 0 || heap.kind(p) != THING) {
                fail(TYPE_ERROR);
                return;
            }
            boolean found = false;
            int o = kindAt(top - 2) == THING ? heap.proto(dataAt(top - 2)) : NONE;
            for (int i = 0; i < Heap.OBJECTS && o >= 0 && !found; i++) {
                found = o == heap.data(p);
                o = heap.proto(o);
            }
            answer(2, found);
        }

        private void stepStack(int op) {
            switch (op) {
                case DROP: top--; break;
                case COPY: pushCopy(top - 1); break;
                case COPY_TWO:
                    pushCopy(top - 2);
                    pushCopy(top - 2);
                    break;
                default:
                    pushCopy(top - 1);
                    put(top - 2, kindAt(top - 3), dataAt(top - 3));
                    put(top - 3, kindAt(top - 4), dataAt(top - 4));
                    put(top - 4, kindAt(top - 1), dataAt(top - 1));
                    break;
            }
            goNext();
        }

        private void stepFlow(int op, int a) {
            boolean truth = op <= OR && texts.truth(kindAt(top - 1), dataAt(top - 1));
            switch (op) {
                case JUMP: goTo(a); break;
                case UNLESS:
                    top--;
                    branch(!truth, a);
                    break;
                case AND:
                case OR:
                    boolean stays = truth == (op == OR);
                    if (!stays) {
                        top--;
                    }
                    branch(stays, a);
                    break;
                case RETURN: giveBack(); break;
                case THROW:
                    top--;
                    hurl(kindAt(top), dataAt(top));
                    break;
                case TRY: openTry(a); break;
                case LEAVE:
                    tryCount--;
                    goNext();
                    break;
                case NAMES_OF: makeList(); break;
                default: nextName(a); break;
            }
        }

        private void branch(boolean away, int a) {
            if (away) {
                goTo(a);
            } else {
                goNext();
            }
        }

        private void openTry(int a) {
            if (tryCount < TRIES_LIMIT) {
                tries[2 * tryCount] = a;
                tries[2 * tryCount + 1] = top - frames[now + BASE];
                tryCount++;
            }
            goNext();
        }

        private void giveBack() {
            int kind = kindAt(top - 1);
            int data = dataAt(top - 1);
            int made = frames[now + MADE];
            closeFrame();
            if (frameCount == 0) {
                state = ENDED;
            } else if (made >= 0 && kind != THING) {
                push(THING, made);
            } else {
                push(kind, data);
            }
        }

        private void fail(int label) {
            hurl(THING, heap.make(label, label - 20, PLAIN));
        }

        // A value is thrown.
        private void hurl(int kind, int data) {
            for (int i = 0; i < FRAMES && frameCount > 0; i++) {
                if (tryCount > frames[now + TRIES] && tryCount > 0) {
                    tryCount--;
                    top = frames[now + BASE] + tries[2 * tryCount + 1];
                    push(kind, data);
                    goTo(tries[2 * tryCount]);
                    return;
                }
                closeFrame();
            }
            state = UNCAUGHT;
            thrownKind = kind;
            thrownData = data;
        }

        // ---- lists

        private void makeList() {
            int v = top - 1;
            boolean thing = kindAt(v) == THING;
            put(v, LIST, thing ? dataAt(v) : NONE);
            if (isPlace(v)) {
                stack[WIDTH * v + DONE] = -1;
                stack[WIDTH * v + END] = heap.serials();
            }
            goNext();
        }

        // The first property of the list behind that serial; -1 if none is left.
        private int listNext(int v, int done) {
            int o = dataAt(v);
            int end = isPlace(v) ? stack[WIDTH * v + END] : 0;
            int p = heap.firstProperty(o);
            for (int i = 0; i < Heap.PROPERTIES && p >= 0; i++) {
                if (heap.serial(p) >= end) {
                    return -1;
                }
                if (heap.serial(p) > done && !(heap.key(p) == LENGTH && heap.isArray(o))) {
                    return p;
                }
                p = heap.after(p);
            }
            return -1;
        }

        private void nextName(int a) {
            int v = top - 1;
            int p = isPlace(v) ? listNext(v, stack[WIDTH * v + DONE]) : -1;
            if (p < 0) {
                top--;
                goTo(a);
                return;
            }
            stack[WIDTH * v + DONE] = heap.serial(p);
            replace(0, STRING, heap.key(p));
        }

        // ---- calls

        private boolean isCallable(int v) {
            return kindAt(v) == THING && heap.sort(dataAt(v)) == CALLABLE;
        }

        // Calls what lies at f; first is the lowest value that the call takes from the stack. The native
        // call takes this as the function and the first argument as this: none of them lies at -1.
        private void stepCall(int first, int f, int self, int arguments, int many) {
            int callee = f;
            int thisAt = self;
            int next = arguments;
            for (int i = 0; i <= many + 2; i++) {
                if (callee < 0 || !isCallable(callee)) {
                    fail(TYPE_ERROR);
                    return;
                }
                int o = dataAt(callee);
                if (heap.body(o) > 0) {
                    enter(first, o, thisAt, next, arguments + many, NONE);
                    return;
                }
                if (o != CALL_NATIVE) {
                    int argument = next < arguments + many ? next : -1;
                    if (suits(o, thisAt)) {
                        callNative(first, o, thisAt, argument);
                    } else {
                        fail(TYPE_ERROR);
                    }
                    return;
                }
                callee = thisAt;
                thisAt = next < arguments + many ? next : -1;
                next++;
            }
        }

        private void stepNew(int many, int site) {
            int f = top - many - 1;
            int o = dataAt(f);
            if (!isCallable(f) || heap.body(o) == 0 && !isMaker(o)) {
                fail(TYPE_ERROR);
            } else if (heap.body(o) == 0) {
                callNative(f, o, -1, many > 0 ? f + 1 : -1);
            } else {
                int p = heap.search(o, PROTOTYPE);
                boolean thing = p >= 0 && heap.kind(p) == THING;
                int made = heap.make(code.siteLabel(site), thing ? heap.data(p) : FIRST_PROTO, PLAIN);
                enter(f, o, -1, f + 1, top, made);
            }
        }

        private static boolean isMaker(int o) {
            return o >= MAKE_OBJECT && o <= LAST_ERROR && o != IS_NAN;
        }

        // A frame for function object o; of NEW's the object that it made is this.
        private void enter(int first, int o, int thisAt, int next, int end, int made) {
            if (frameCount >= FRAMES) {
                fail(RANGE_ERROR);
                return;
            }
            int f = heap.body(o);
            int scope = heap.make(code.scopeLabel(f), NONE, SCOPE);
            heap.setLink(scope, heap.linkOf(o));
            for (int i = 0; i < code.variableCount[f]; i++) {
                int name = code.variables[f][i];
                if (i < code.parameters[f] && next + i < end) {
                    heap.set(scope, name, kindAt(next + i), dataAt(next + i));
                } else if (i >= code.parameters[f] && name == code.own[f]) {
                    heap.set(scope, name, THING, o);
                } else {
                    heap.set(scope, name, UNDEFINED, 0);
                }
            }
            int thisKind = made >= 0 ? THING : UNDEFINED;
            int thisData = Math.max(made, 0);
            if (made < 0 && thisAt >= 0) {
                thisKind = kindAt(thisAt);
                thisData = dataAt(thisAt);
            }
            goNext();
            top = first;
            openFrame(f, scope, thisKind, thisData, made);
        }

        // ---- natives

        // Whether the native can be called with what lies there as this.
        private boolean suits(int o, int thisAt) {
            int kind = thisAt < 0 ? UNDEFINED : kindAt(thisAt);
            switch (o) {
                case PUSH:
                case POP: return kind == THING && heap.isArray(dataAt(thisAt));
                case HAS_OWN: return kind == THING;
                case CHAR_AT: return kind == STRING;
                default: return true;
            }
        }

        // The call ends with this value.
        private void finish(int first, int kind, int data) {
            top = first;
            push(kind, data);
            goNext();
        }

        // this lies at that place; the first argument likewise, or at -1 if there is none.
        private void callNative(int first, int o, int thisAt, int argument) {
            int self = dataAt(thisAt);
            int kind = argument < 0 ? UNDEFINED : kindAt(argument);
            int data = argument < 0 ? 0 : dataAt(argument);
            switch (o) {
                case PRINT: print(first, texts.textOf(kind, data)); break;
                case MAKE_OBJECT: finish(first, THING, heap.make(OBJECT_LABEL, FIRST_PROTO, PLAIN)); break;
                case MAKE_ARRAY: finish(first, THING, heap.makeArray(ARRAY_LABEL)); break;
                case MAKE_STRING: finish(first, STRING, argument < 0 ? N_EMPTY : texts.textOf(kind, data)); break;
                case IS_NAN: finish(first, texts.number(kind, data) == Texts.NO_NUMBER ? TRUE : FALSE, 0); break;
                case PUSH: finish(first, NUMBER, pushItem(self, kind, data)); break;
                case POP: popItem(first, self); break;
                case HAS_OWN:
                    finish(first, heap.find(self, texts.textOf(kind, data)) >= 0 ? TRUE : FALSE, 0);
                    break;
                case CHAR_AT: finish(first, STRING, charAt(self, texts.number(kind, data))); break;
                default:
                    int maker = o - MAKE_ERROR;
                    int made = heap.make(ERROR_LABEL + maker, ERROR_PROTO + maker, PLAIN);
                    if (argument >= 0) {
                        heap.set(made, MESSAGE, STRING, texts.textOf(kind, data));
                    }
                    finish(first, THING, made);
                    break;
            }
        }

        private void print(int first, int line) {
            if (lineCount < LINES) {
                lines[lineCount] = line;
                lineCount++;
            }
            finish(first, UNDEFINED, 0);
        }

        // What the length is then.
        private int pushItem(int o, int kind, int data) {
            int length = lengthOf(o);
            heap.set(o, texts.textOf(NUMBER, length), kind, data);
            length = Math.min(ARRAY_LIMIT, length + 1);
            heap.set(o, LENGTH, NUMBER, length);
            return length;
        }

        private void popItem(int first, int o) {
            int length = lengthOf(o);
            if (length == 0) {
                finish(first, UNDEFINED, 0);
                return;
            }
            int name = texts.textOf(NUMBER, length - 1);
            int p = heap.find(o, name);
            int kind = p < 0 ? UNDEFINED : heap.kind(p);
            int data = p < 0 ? 0 : heap.data(p);
            heap.remove(o, name);
            heap.set(o, LENGTH, NUMBER, length - 1);
            finish(first, kind, data);
        }

        private int charAt(int s, long number) {
            int sign = texts.sign(s, number == Texts.NO_NUMBER ? 0 : (int) number);
            texts.clear();
            if (sign >= 0) {
                texts.add((char) sign);
            }
            return texts.make();
        }
    }

    /** A set of what a value can be; also labels alone, and the KEYS of a set. */
    private static final class Bag {
        // beside 1 << sort for undefined, null, true, false and NaN
        private static final long ONE_NUMBER = 32;
        private static final long ALL_NUMBERS = 64;
        private static final long ONE_STRING = 128;
        private static final long ALL_STRINGS = 256;
        private static final long ABSENT = 512;
        private static final long FLAGS = 1023;
        private static final long VALUES = 511;
        private static final long NOTHING = 3;
        private static final long TRUTHS = 12;
        private static final int NAME_SHIFT = 16;
        private static final long NAME_BITS = 255L << NAME_SHIFT;
        private static final int NUMBER_SHIFT = 32;
        private static final long NUMBER_BITS = -1L << NUMBER_SHIFT;

        // the flags, with the one name and the one number; and the labels
        long bits;
        long lo;
        long hi;

        static long oneNumber(int n) {
            return ONE_NUMBER | (long) n << NUMBER_SHIFT;
        }

        static long oneName(int name) {
            return ONE_STRING | (long) name << NAME_SHIFT;
        }

        static long joinBits(long x, long y) {
            if (x == y) {
                return x;
            }
            long both = x | y;
            long flags = both & FLAGS;
            long number = both & NUMBER_BITS;
            long name = both & NAME_BITS;
            if ((x & y & ONE_NUMBER) != 0 && ((x ^ y) & NUMBER_BITS) != 0) {
                flags |= ALL_NUMBERS;
            }
            if ((x & y & ONE_STRING) != 0 && ((x ^ y) & NAME_BITS) != 0) {
                flags |= ALL_STRINGS;
            }
            if ((flags & ALL_NUMBERS) != 0) {
                flags &= ~ONE_NUMBER;
                number = 0;
            }
            if ((flags & ALL_STRINGS) != 0) {
                flags &= ~ONE_STRING;
                name = 0;
            }
            return flags | number | name;
        }

        static long fact(long bits, long lo, long hi, int what) {
            switch (what) {
                case 0: return bits & FLAGS;
                case 1: return (bits & ONE_NUMBER) == 0 ? 0 : bits >> NUMBER_SHIFT;
                case 2: return (bits & ONE_STRING) == 0 ? 0 : (bits & NAME_BITS) >>> NAME_SHIFT;
                case 3: return lo;
                case 4: return hi;
                default: return 0;
            }
        }

        void clear() {
            bits = 0;
            lo = 0;
            hi = 0;
        }

        void become(long flags) {
            bits = flags;
            lo = 0;
            hi = 0;
        }

        void copy(Bag from) {
            bits = from.bits;
            lo = from.lo;
            hi = from.hi;
        }

        void take(long[] from, int at) {
            bits = from[at];
            lo = from[at + 1];
            hi = from[at + 2];
        }

        // What is in the other one of these labels.
        void pick(Bag from, Bag labels) {
            bits = 0;
            lo = from.lo & labels.lo;
            hi = from.hi & labels.hi;
        }

        void join(long[] from, int at) {
            bits = joinBits(bits, from[at]);
            lo |= from[at + 1];
            hi |= from[at + 2];
        }

        void joinFlags(long flags) {
            bits = joinBits(bits, flags);
        }

        boolean has(int l) {
            return ((l < 64 ? lo >>> l : hi >>> l - 64) & 1) != 0;
        }

        void add(int l) {
            if (l < 64) {
                lo |= 1L << l;
            } else {
                hi |= 1L << l - 64;
            }
        }

        int size() {
            return Long.bitCount(lo) + Long.bitCount(hi);
        }

        boolean hasLabels() {
            return (lo | hi) != 0;
        }

        boolean hasAny(Bag labels) {
            return (lo & labels.lo | hi & labels.hi) != 0;
        }

        boolean hasValues(long flags) {
            return (bits & flags) != 0;
        }

        boolean isEmpty() {
            return (bits & VALUES) == 0 && !hasLabels();
        }

        // Whether nothing but some of these labels is in it.
        boolean isOnly(Bag labels) {
            return (bits & VALUES) == 0 && (lo & ~labels.lo | hi & ~labels.hi) == 0;
        }

        boolean isAlone() {
            return !hasLabels() && Long.bitCount(bits & VALUES) == 1 && !hasValues(ALL_NUMBERS | ALL_STRINGS);
        }

        // Of a set that is ALONE the value's sort.
        int kind() {
            if (hasValues(ONE_STRING)) {
                return STRING;
            }
            return Long.bitCount((bits & VALUES) - 1);
        }

        // Of a set that is ALONE the number or the name.
        int data() {
            return (int) (hasValues(ONE_STRING) ? fact(bits, lo, hi, 2) : fact(bits, lo, hi, 1));
        }

        boolean mayBeTrue() {
            return hasLabels() || hasValues(1L << TRUE | ALL_NUMBERS | ALL_STRINGS)
                || hasValues(ONE_NUMBER) && fact(bits, lo, hi, 1) != 0
                || hasValues(ONE_STRING) && fact(bits, lo, hi, 2) != N_EMPTY;
        }

        boolean mayBeFalse() {
            return hasValues(NOTHING | 1L << FALSE | 1L << NAN | ALL_NUMBERS | ALL_STRINGS)
                || hasValues(ONE_NUMBER) && fact(bits, lo, hi, 1) == 0
                || hasValues(ONE_STRING) && fact(bits, lo, hi, 2) == N_EMPTY;
        }
    }

    /** What labels and names there are, and of which sorts. */
    private static final class Shape {
        // the longs of a label's row ahead of its fields: flags, PROTO, LINK
        private static final int FIELDS = 5;

        int labels;
        // also the number of OTHER
        int names;
        int row;
        final Bag latest = new Bag();
        final Bag single = new Bag();
        final Bag arrays = new Bag();
        final Bag functions = new Bag();
        final Bag coded = new Bag();
        // what NEW can be done of
        final Bag makers = new Bag();
        // names that are texts of ints, and of 0 .. 99
        final Bag ints = new Bag();
        final Bag indexes = new Bag();
        // names that push and pop can reach
        final Bag pushed = new Bag();
        final Bag popped = new Bag();

        void fit(Code code, Texts texts) {
            labels = code.labels();
            names = code.names;
            row = FIELDS + 3 * (names + 1);
            sortLabels(code);
            sortNames(texts);
        }

        private void sortLabels(Code code) {
            latest.clear();
            single.clear();
            arrays.clear();
            functions.clear();
            coded.clear();
            for (int l = 0; l < FIRST_OBJECTS; l++) {
                single.add(l);
            }
            for (int l = PRINT; l < FIRST_OBJECTS; l++) {
                functions.add(l);
            }
            for (int l = FIRST_LABELS; l < labels; l += 2) {
                latest.add(l);
                single.add(l);
            }
            for (int l = FIRST_LABELS; l < labels; l++) {
                if (code.functionOfLabel(l) > 0) {
                    coded.add(l);
                    functions.add(l);
                }
            }
            arrays.add(ARRAY_LABEL);
            for (int k = 0; k < code.count; k++) {
                if (code.op[k] == ARRAY) {
                    arrays.add(code.siteLabel(code.a[k]));
                    arrays.add(code.siteLabel(code.a[k]) + 1);
                }
            }
            makers.pick(coded, coded);
            for (int l = MAKE_OBJECT; l <= LAST_ERROR; l++) {
                if (l != IS_NAN) {
                    makers.add(l);
                }
            }
        }

        private void sortNames(Texts texts) {
            ints.clear();
            indexes.clear();
            pushed.clear();
            for (int n = 0; n < names; n++) {
                long number = texts.writtenInt(n);
                if (number != Texts.NO_NUMBER) {
                    ints.add(n);
                    if (number >= 0 && number <= 99) {
                        indexes.add(n);
                    }
                    if (number >= 0 && number <= 100) {
                        pushed.add(n);
                    }
                }
            }
            pushed.add(names);
            popped.pick(indexes, indexes);
            popped.add(names);
        }
    }

    /** A state that is worked on. */
    private static final class Work {
        // the flags of a label's row
        private static final long THERE = 1;
        private static final long NULLABLE = 2;
        private static final int PROTO = 1;
        private static final int LINK = 3;
        // the head: THIS, and SCOPE's labels
        private static final int HEAD = 5;
        private static final int SCOPE_AT = 3;

        private final Shape shape;
        final long[] head = new long[HEAD];
        final long[] rows = new long[LABEL_LIMIT * (Shape.FIELDS + 3 * (NAME_LIMIT + 1))];
        final long[] stack = new long[3 * HEIGHT_LIMIT];
        int height;

        Work(Shape shape) {
            this.shape = shape;
        }

        void clear() {
            Arrays.fill(head, 0);
            Arrays.fill(rows, 0);
            height = 0;
        }

        void load(long[] cells, int at, int high) {
            int size = shape.labels * shape.row;
            System.arraycopy(cells, at, head, 0, HEAD);
            System.arraycopy(cells, at + HEAD, rows, 0, size);
            height = Math.min(high, stack.length / 3);
            System.arraycopy(cells, at + HEAD + size, stack, 0, 3 * height);
        }

        void copy(Work from) {
            System.arraycopy(from.rows, 0, rows, 0, shape.labels * shape.row);
            takeStack(from, from.height);
        }

        // The head, and so many sets of the stack; not the rows.
        void takeStack(Work from, int high) {
            System.arraycopy(from.head, 0, head, 0, HEAD);
            height = Math.max(0, Math.min(high, from.height));
            System.arraycopy(from.stack, 0, stack, 0, 3 * height);
        }

        // ---- the stack

        void push(Bag set) {
            if (3 * height + 2 < stack.length) {
                stack[3 * height] = set.bits;
                stack[3 * height + 1] = set.lo;
                stack[3 * height + 2] = set.hi;
                height++;
            }
        }

        void drop(int many) {
            height = Math.max(0, height - many);
        }

        // Set i on the stack, the lowest being 0; where there is none UNDEFINED.
        void takeSet(int i, Bag set) {
            if (i < 0 || i >= height) {
                set.become(1L << UNDEFINED);
            } else {
                set.take(stack, 3 * i);
            }
        }

        void setThis(Bag set) {
            head[0] = set.bits;
            head[1] = set.lo;
            head[2] = set.hi;
        }

        void setScope(int l) {
            head[SCOPE_AT] = 0;
            head[SCOPE_AT + 1] = 0;
            head[SCOPE_AT + (l >>> 6)] = 1L << (l & 63);
        }

        // ---- rows

        int cellOf(int l, int n) {
            return l * shape.row + Shape.FIELDS + 3 * n;
        }

        boolean isThere(int l) {
            return (rows[l * shape.row] & THERE) != 0;
        }

        static boolean joinTriple(long[] to, int t, long[] from, int f) {
            long bits = Bag.joinBits(to[t], from[f]);
            long lo = to[t + 1] | from[f + 1];
            long hi = to[t + 2] | from[f + 2];
            if (bits == to[t] && lo == to[t + 1] && hi == to[t + 2]) {
                return false;
            }
            to[t] = bits;
            to[t + 1] = lo;
            to[t + 2] = hi;
            return true;
        }

        // Joins one label's row into another; whether that has grown.
        static boolean joinRow(long[] to, int t, long[] from, int f, int size) {
            boolean grown = false;
            for (int i = 0; i < Shape.FIELDS; i++) {
                long more = from[f + i] & ~to[t + i];
                to[t + i] |= more;
                grown |= more != 0;
            }
            for (int i = Shape.FIELDS; i < size; i += 3) {
                if (to[t + i] != from[f + i]) {
                    long bits = Bag.joinBits(to[t + i], from[f + i]);
                    grown |= bits != to[t + i];
                    to[t + i] = bits;
                }
                long more = from[f + i + 1] & ~to[t + i + 1];
                long most = from[f + i + 2] & ~to[t + i + 2];
                if ((more | most) != 0) {
                    to[t + i + 1] |= more;
                    to[t + i + 2] |= most;
                    grown = true;
                }
            }
            return grown;
        }

        // The older label of a pair stands for the latest one, whose row is NEW then.
        void make(int l, int proto) {
            rename(head, 1, 2, l);
            rename(head, SCOPE_AT, 2, l);
            for (int i = 0; i < height; i++) {
                rename(stack, 3 * i + 1, 2, l);
            }
            for (int row = 0; row < shape.labels; row++) {
                if (isThere(row)) {
                    int at = row * shape.row;
                    rename(rows, at + PROTO, 4, l);
                    for (int i = Shape.FIELDS + 1; i < shape.row; i += 3) {
                        rename(rows, at + i, 2, l);
                    }
                }
            }
            if (isThere(l)) {
                joinRow(rows, (l + 1) * shape.row, rows, l * shape.row, shape.row);
            }
            blank(l, proto);
        }

        // In so many longs with labels, two for each set of them.
        private static void rename(long[] in, int at, int size, int l) {
            int w = l >>> 6;
            int v = l + 1 >>> 6;
            long bit = 1L << (l & 63);
            long older = 1L << (l + 1 & 63);
            for (int i = 0; i + 1 < size; i += 2) {
                if ((in[at + i + w] & bit) != 0) {
                    in[at + i + w] &= ~bit;
                    in[at + i + v] |= older;
                }
            }
        }

        // Label l is NEW, with this PROTO, or with a PROTO that is null.
        void blank(int l, int proto) {
            int at = l * shape.row;
            Arrays.fill(rows, at, at + shape.row, 0);
            rows[at] = proto < 0 ? THERE | NULLABLE : THERE;
            if (proto >= 0) {
                addProto(l, proto);
            }
            for (int i = Shape.FIELDS; i < shape.row; i += 3) {
                rows[at + i] = Bag.ABSENT;
            }
        }

        void addProto(int l, int proto) {
            rows[l * shape.row + PROTO + (proto >>> 6)] |= 1L << (proto & 63);
        }

        void setProtos(int l, Bag labels) {
            rows[l * shape.row + PROTO] = labels.lo;
            rows[l * shape.row + PROTO + 1] = labels.hi;
        }

        void setField(int l, int n, Bag set) {
            int at = cellOf(l, n);
            rows[at] = set.bits;
            rows[at + 1] = set.lo;
            rows[at + 2] = set.hi;
        }

        void setLabel(int l, int n, int label) {
            int at = cellOf(l, n);
            rows[at] = 0;
            rows[at + 1] = 0;
            rows[at + 2] = 0;
            rows[at + 1 + (label >>> 6)] = 1L << (label & 63);
        }

        void setFlags(int l, int n, long bits) {
            int at = cellOf(l, n);
            rows[at] = bits;
            rows[at + 1] = 0;
            rows[at + 2] = 0;
        }

        // LINK becomes what SCOPE is.
        void linkToScope(int l) {
            rows[l * shape.row + LINK] = head[SCOPE_AT];
            rows[l * shape.row + LINK + 1] = head[SCOPE_AT + 1];
        }

        void joinLink(int l, int from) {
            rows[l * shape.row + LINK] |= rows[from * shape.row + LINK];
            rows[l * shape.row + LINK + 1] |= rows[from * shape.row + LINK + 1];
        }

        // SCOPE, or what lies so many LINKs farther out.
        void scopes(int far, Bag out) {
            out.become(0);
            out.lo = head[SCOPE_AT];
            out.hi = head[SCOPE_AT + 1];
            for (int i = 0; i < far; i++) {
                long lo = 0;
                long hi = 0;
                for (int l = 0; l < shape.labels; l++) {
                    if (out.has(l)) {
                        lo |= rows[l * shape.row + LINK];
                        hi |= rows[l * shape.row + LINK + 1];
                    }
                }
                out.lo = lo;
                out.hi = hi;
            }
        }

        // The join of the fields n of these labels.
        void own(Bag labels, int n, Bag out) {
            out.clear();
            for (int l = 0; l < shape.labels; l++) {
                if (labels.has(l) && isThere(l)) {
                    int at = cellOf(l, n);
                    out.bits = Bag.joinBits(out.bits, rows[at]);
                    out.lo |= rows[at + 1];
                    out.hi |= rows[at + 2];
                }
            }
        }

        // READs keys from labels into a set that has been cleared; whether they can be MISSED.
        boolean gather(Bag keys, Bag labels, Bag out) {
            boolean missed = false;
            for (int n = 0; n <= shape.names; n++) {
                if (keys.has(n)) {
                    missed |= gatherKey(n, labels.lo, labels.hi, out);
                }
            }
            out.bits &= ~Bag.ABSENT;
            return missed;
        }

        private boolean gatherKey(int n, long fromLo, long fromHi, Bag out) {
            boolean missed = false;
            long lo = fromLo;
            long hi = fromHi;
            long doneLo = 0;
            long doneHi = 0;
            for (int i = 0; i < LABEL_LIMIT && (lo | hi) != 0; i++) {
                int l = lo != 0 ? Long.bitCount((lo & -lo) - 1) : 64 + Long.bitCount((hi & -hi) - 1);
                if (l < 64) {
                    doneLo |= 1L << l;
                } else {
                    doneHi |= 1L << l - 64;
                }
                if (l < shape.labels && isThere(l)) {
                    int at = l * shape.row;
                    int in = at + Shape.FIELDS + 3 * n;
                    out.bits = Bag.joinBits(out.bits, rows[in]);
                    out.lo |= rows[in + 1];
                    out.hi |= rows[in + 2];
                    if ((rows[in] & Bag.ABSENT) != 0) {
                        lo |= rows[at + PROTO];
                        hi |= rows[at + PROTO + 1];
                        missed |= (rows[at] & NULLABLE) != 0;
                    }
                }
                lo &= ~doneLo;
                hi &= ~doneHi;
            }
            return missed;
        }

        // A set is WRITTEN by keys to what o has of labels; DELETE writes ABSENT alone.
        void write(Bag o, Bag keys, Bag set) {
            boolean alone = !o.hasValues(Bag.VALUES) && o.size() == 1 && o.hasAny(shape.single)
                && keys.size() == 1 && !keys.has(shape.names);
            for (int l = 0; l < shape.labels; l++) {
                for (int n = 0; o.has(l) && isThere(l) && n <= shape.names; n++) {
                    if (!keys.has(n) || n == LENGTH && shape.arrays.has(l)) {
                        continue;
                    }
                    if (alone) {
                        setField(l, n, set);
                    } else {
                        joinField(l, n, set);
                    }
                }
            }
        }

        private void joinField(int l, int n, Bag set) {
            int at = cellOf(l, n);
            rows[at] = Bag.joinBits(rows[at], set.bits);
            rows[at + 1] |= set.lo;
            rows[at + 2] |= set.hi;
        }

        // The lengths of arrays among these labels can be all numbers.
        void loosenLengths(Bag labels) {
            for (int l = 0; l < shape.labels; l++) {
                if (labels.has(l) && shape.arrays.has(l) && isThere(l)) {
                    int at = cellOf(l, LENGTH);
                    rows[at] = Bag.joinBits(rows[at], Bag.ALL_NUMBERS);
                }
            }
        }

        // For each latest label in the head and the stack the older one comes, too.
        void age() {
            age(head, 1);
            age(head, SCOPE_AT);
            for (int i = 0; i < height; i++) {
                age(stack, 3 * i + 1);
            }
        }

        private void age(long[] in, int at) {
            long lo = in[at] & shape.latest.lo;
            long hi = in[at + 1] & shape.latest.hi;
            in[at] |= lo << 1;
            in[at + 1] |= hi << 1 | lo >>> 63;
        }
    }

    /** Finds the least states that the code allows, and tells of them. */
    private static final class Solver {
        private static final int HEAD = 5;
        private static final int PASSES = 1000000;
        private static final int NO_WAY = 4;
        private static final int STATES = CODE_LIMIT + 2 * (FUNCTION_LIMIT + 1);
        // The longs of all states of any script: of each its head; of each label its row, with OTHER's field; of each
        // name's field three; and the stacks, none of which has more values than instructions came ahead, and one.
        private static final int MOST_CELLS = HEAD * STATE_LIMIT + (Shape.FIELDS + 3) * (FIELD_LIMIT / FIRST_NAMES)
            + 3 * FIELD_LIMIT + 3 * (STATE_LIMIT * (STATE_LIMIT + 1) / 2);

        private final Code code;
        private final Texts texts;
        private final Shape shape = new Shape();
        // a state: head, rows, stack; behind those of instructions two of each function, for its end and
        // its thrown end, whose stack is the set that is RETURNed or thrown
        private final long[] cells = new long[MOST_CELLS];
        private final int[] offset = new int[STATES];
        private final boolean[] reached = new boolean[STATES];
        private final boolean[] queued = new boolean[CODE_LIMIT];
        private int waiting;
        // of each instruction the functions that it calls, as bits, and what it warns of
        private final int[] called = new int[CODE_LIMIT];
        private final int[] warned = new int[CODE_LIMIT];
        boolean solved;
        // the instruction that is worked on
        private int at;
        // what it warns of, as bits; NO_WAY until a normal way on is found
        private int warning;
        private final Work now = new Work(shape);
        private final Work way = new Work(shape);
        private final Bag x = new Bag();
        private final Bag y = new Bag();
        private final Bag z = new Bag();
        private final Bag r = new Bag();
        private final Bag other = new Bag();
        private final Bag keys = new Bag();

        Solver(Code code, Texts texts) {
            this.code = code;
            this.texts = texts;
        }

        void forget() {
            solved = false;
        }

        // ---- what can be looked at

        int amount() {
            int many = 0;
            for (int k = 0; k < code.count; k++) {
                many += isReached(k) ? 1 : 0;
            }
            return solved ? many : NONE;
        }

        boolean isReached(int k) {
            return solved && k >= 0 && k < code.count && reached[k];
        }

        int warnings(int k) {
            return warned[k];
        }

        private long tell(int cell, int what) {
            return Bag.fact(cells[cell], cells[cell + 1], cells[cell + 2], what);
        }

        long slotFact(int k, int i, int what) {
            if (i < -1 || i >= code.height[k]) {
                return 0;
            }
            return tell(i < 0 ? offset[k] : stackOf(k) + 3 * i, what);
        }

        long fieldFact(int k, int l, int n, int what) {
            if (l < 0 || l >= shape.labels || n < 0 || n > shape.names) {
                return 0;
            }
            return tell(rowOf(k, l) + Shape.FIELDS + 3 * n, what);
        }

        long linkFact(int k, int l, int what) {
            if (l == -1) {
                return what == 3 || what == 4 ? cells[offset[k] + what] : 0;
            }
            if (l < 0 || l >= shape.labels || what < 0 || what > 5) {
                return 0;
            }
            int row = rowOf(k, l);
            switch (what) {
                case 0:
                case 1: return cells[row + 1 + what];
                case 2: return (cells[row] & Work.NULLABLE) != 0 ? 1 : 0;
                case 5: return (cells[row] & Work.THERE) != 0 ? 1 : 0;
                default: return cells[row + what];
            }
        }

        long resultFact(int f, int how, int what) {
            if (!solved || f < 0 || f >= code.functions || how < 0 || how > 1) {
                return 0;
            }
            int end = endOf(f) + how;
            return reached[end] ? tell(stackOf(end), what) : 0;
        }

        // ---- where states are

        private int endOf(int f) {
            return code.count + 2 * f;
        }

        private int rowOf(int state, int l) {
            return offset[state] + HEAD + l * shape.row;
        }

        private int stackOf(int state) {
            return offset[state] + HEAD + shape.labels * shape.row;
        }

        private int heightOf(int state) {
            return state < code.count ? code.height[state] : 1;
        }

        // Whether all states have found their places: they do, as MOST_CELLS tells.
        private boolean layOut() {
            int rows = HEAD + shape.labels * shape.row;
            int total = 0;
            int states = endOf(code.functions);
            for (int s = 0; s < states; s++) {
                offset[s] = total;
                reached[s] = false;
                if (heightOf(s) >= 0) {
                    total += rows + 3 * heightOf(s);
                }
            }
            if (total > cells.length) {
                return false;
            }
            Arrays.fill(cells, 0, total, 0);
            return true;
        }

        // ---- the solution

        void work() {
            shape.fit(code, texts);
            if (!layOut()) {
                return;
            }
            for (int k = 0; k < CODE_LIMIT; k++) {
                called[k] = 0;
                warned[k] = 0;
                queued[k] = false;
            }
            waiting = 0;
            startState();
            for (int pass = 0; pass < PASSES && waiting > 0; pass++) {
                for (int k = 0; k < code.count; k++) {
                    if (queued[k]) {
                        queued[k] = false;
                        waiting--;
                        evaluate(k);
                    }
                }
            }
            solved = true;
        }

        // The state with which the machine begins.
        private void startState() {
            now.clear();
            now.head[0] = 1L << UNDEFINED;
            for (int o = 0; o < FIRST_PROTOS.length; o++) {
                now.blank(o, FIRST_PROTOS[o]);
            }
            for (int i = 0; i + 3 < FIRST_PROPERTIES.length; i += 4) {
                int datum = FIRST_PROPERTIES[i + 3];
                if (FIRST_PROPERTIES[i + 2] == THING) {
                    now.setLabel(FIRST_PROPERTIES[i], FIRST_PROPERTIES[i + 1], datum);
                } else {
                    now.setFlags(FIRST_PROPERTIES[i], FIRST_PROPERTIES[i + 1], Bag.oneName(datum));
                }
            }
            join(code.first[0], now, now.rows, 0);
        }

        // Joins head and stack of a work, and rows, into a state.
        private void join(int state, Work from, long[] rows, int rowsAt) {
            boolean grown = !reached[state];
            reached[state] = true;
            if (state < code.count) {
                grown |= Work.joinTriple(cells, offset[state], from.head, 0);
                for (int i = Work.SCOPE_AT; i < HEAD; i++) {
                    long more = from.head[i] & ~cells[offset[state] + i];
                    cells[offset[state] + i] |= more;
                    grown |= more != 0;
                }
            }
            for (int l = 0; l < shape.labels; l++) {
                int row = rowsAt + l * shape.row;
                if ((rows[row] & Work.THERE) != 0) {
                    grown |= Work.joinRow(cells, rowOf(state, l), rows, row, shape.row);
                }
            }
            int high = Math.min(heightOf(state), from.height);
            for (int i = 0; i < high; i++) {
                grown |= Work.joinTriple(cells, stackOf(state) + 3 * i, from.stack, 3 * i);
            }
            if (grown) {
                enqueue(state);
            }
        }

        // An instruction is worked on again; of a function's end all that call it.
        private void enqueue(int state) {
            boolean end = state >= code.count;
            int f = (state - code.count) / 2;
            for (int k = end ? 0 : state; k < code.count && (end || k == state); k++) {
                if (!queued[k] && (!end || (called[k] >>> f & 1) != 0)) {
                    queued[k] = true;
                    waiting++;
                }
            }
        }

        private void evaluate(int k) {
            at = k;
            warning = NO_WAY;
            now.load(cells, offset[k], code.height[k]);
            int a = code.a[k];
            int b = code.b[k];
            int op = code.op[k];
            takeOperands(op);
            switch (op) {
                case OBJECT:
                case ARRAY:
                case FUNCTION: makeThing(op, a); break;
                case GET: get(); break;
                case PUT: put(); break;
                case DELETE: delete(); break;
                case UNARY: unary(a); break;
                case BINARY:
                    if (a == 19) {
                        isIn();
                    } else if (a == 20) {
                        isInstance();
                    } else {
                        binary(a);
                    }
                    break;
                case CALL: call(a); break;
                case NEW: construct(a, b); break;
                default:
                    if (op < OBJECT) {
                        fetch(op, a, b);
                    } else if (op <= UNDER) {
                        shuffle(op);
                    } else {
                        flow(op, a);
                    }
                    break;
            }
            warned[k] = warning;
        }

        // The normal way on.
        private void goOn(int place) {
            warning &= ~NO_WAY;
            join(place, now, now.rows, 0);
        }

        private void goOnWith(int many, Bag set) {
            if (!set.isEmpty()) {
                now.drop(many);
                now.push(set);
                warning &= ~NO_WAY;
                join(at + 1, now, now.rows, 0);
            }
        }

        // Where what is thrown goes, and how high the stack is there below it.
        private int handler() {
            int open = code.tryAt[at];
            return open < 0 ? endOf(code.fn[at]) + 1 : code.a[open];
        }

        private int handlerHeight() {
            int open = code.tryAt[at];
            return open < 0 ? 0 : code.height[open];
        }

        private void error(int label) {
            if (label != RANGE_ERROR) {
                warning |= label == TYPE_ERROR ? 1 : 2;
            }
            z.become(0);
            z.add(label);
            way.takeStack(now, handlerHeight());
            way.push(z);
            join(handler(), way, now.rows, 0);
            addRow(handler(), label, label - 20, -1, 0);
        }

        private void hurl(Bag set) {
            way.takeStack(now, handlerHeight());
            way.push(set);
            join(handler(), way, now.rows, 0);
        }

        // ADDs a label to a state, with one field that is not ABSENT, or none.
        private void addRow(int state, int l, int proto, int name, long flags) {
            int row = rowOf(state, l);
            long grown = Work.THERE & ~cells[row] | 1L << proto & ~cells[row + 1];
            cells[row] |= Work.THERE;
            cells[row + 1] |= 1L << proto;
            for (int n = 0; n <= shape.names; n++) {
                int cell = row + Shape.FIELDS + 3 * n;
                long bits = Bag.joinBits(cells[cell], n == name ? flags : Bag.ABSENT);
                grown |= bits ^ cells[cell];
                cells[cell] = bits;
            }
            if (grown != 0) {
                enqueue(state);
            }
        }

        private long joinFlags(int cell, long flags) {
            long bits = Bag.joinBits(cells[cell], flags);
            long grown = bits ^ cells[cell];
            cells[cell] = bits;
            return grown;
        }

        // ---- values

        private void fetch(int op, int a, int b) {
            r.clear();
            switch (op) {
                case CONSTANT:
                    r.bits = constant(a, b);
                    break;
                case LOAD:
                    now.scopes(a, x);
                    now.own(x, b, r);
                    break;
                case STORE:
                    now.scopes(a, x);
                    write(b);
                    return;
                case GLOBAL:
                    globalField(b);
                    if (r.hasValues(Bag.ABSENT)) {
                        error(REFERENCE_ERROR);
                    }
                    break;
                case SET_GLOBAL:
                    x.become(0);
                    x.add(0);
                    write(b);
                    return;
                case TYPE_GLOBAL:
                    globalField(b);
                    x.copy(r);
                    typeOf(x, x.hasValues(Bag.ABSENT));
                    break;
                default:
                    r.take(now.head, 0);
                    break;
            }
            r.bits &= ~Bag.ABSENT;
            goOnWith(0, r);
        }

        private static long constant(int a, int b) {
            if (a == NUMBER) {
                return Bag.oneNumber(b);
            }
            return a == STRING ? Bag.oneName(b) : 1L << a;
        }

        private void globalField(int name) {
            x.become(0);
            x.add(0);
            now.own(x, name, r);
        }

        // The value on top is written to the labels in x, and stays.
        private void write(int name) {
            keys.become(0);
            keys.add(name);
            now.takeSet(now.height - 1, r);
            now.write(x, keys, r);
            warning &= ~NO_WAY;
            join(at + 1, now, now.rows, 0);
        }

        // What typeof answers of a set, to the result; perhaps of nothing, too.
        private void typeOf(Bag set, boolean absent) {
            r.clear();
            for (int sort = UNDEFINED; sort <= NUMBER; sort++) {
                if (set.hasValues(1L << sort)) {
                    r.joinFlags(Bag.oneName(texts.typeName(sort)));
                }
            }
            if (set.hasValues(Bag.ALL_NUMBERS)) {
                r.joinFlags(Bag.oneName(texts.typeName(NUMBER)));
            }
            if (set.hasValues(Bag.ONE_STRING | Bag.ALL_STRINGS)) {
                r.joinFlags(Bag.oneName(texts.typeName(STRING)));
            }
            if (set.hasAny(shape.functions)) {
                r.joinFlags(Bag.oneName(N_FUNCTION));
            }
            if ((set.lo & ~shape.functions.lo | set.hi & ~shape.functions.hi) != 0) {
                r.joinFlags(Bag.oneName(N_OBJECT));
            }
            if (absent) {
                r.joinFlags(Bag.oneName(N_UNDEFINED));
            }
        }

        private void makeThing(int op, int a) {
            int l = op == FUNCTION ? code.functionLabel(a) : code.siteLabel(a);
            if (op == FUNCTION) {
                int prototype = code.prototypeLabel(a);
                now.make(l, FUNCTION_PROTO);
                now.make(prototype, FIRST_PROTO);
                now.linkToScope(l);
                now.setLabel(l, PROTOTYPE, prototype);
                now.setLabel(prototype, CONSTRUCTOR, l);
            } else if (op == ARRAY) {
                now.make(l, ARRAY_PROTO);
                now.setFlags(l, LENGTH, Bag.oneNumber(0));
            } else {
                now.make(l, FIRST_PROTO);
            }
            r.become(0);
            r.add(l);
            goOnWith(0, r);
        }

        // ---- keys and texts

        private void keysOf(Bag set) {
            keys.become(0);
            for (int sort = UNDEFINED; sort <= NAN; sort++) {
                if (set.hasValues(1L << sort)) {
                    keys.add(texts.fixedText(sort, 0));
                }
            }
            if (set.hasValues(Bag.ONE_NUMBER)) {
                texts.clear();
                texts.addNumber((int) Bag.fact(set.bits, 0, 0, 1));
                int name = texts.find();
                keys.add(name >= 0 && name < shape.names ? name : shape.names);
            }
            if (set.hasValues(Bag.ALL_NUMBERS)) {
                keys.lo |= shape.ints.lo;
                keys.hi |= shape.ints.hi;
                keys.add(shape.names);
            }
            if (set.hasValues(Bag.ONE_STRING)) {
                keys.add((int) Bag.fact(set.bits, 0, 0, 2));
            }
            for (int n = 0; set.hasValues(Bag.ALL_STRINGS) && n <= shape.names; n++) {
                keys.add(n);
            }
            if (set.hasLabels()) {
                keys.add(N_THING);
            }
        }

        // The TEXT of a set, as flags.
        private long textOf(Bag set) {
            keysOf(set);
            if (keys.size() != 1 || keys.has(shape.names)) {
                return Bag.ALL_STRINGS;
            }
            int name = keys.lo != 0 ? Long.bitCount((keys.lo & -keys.lo) - 1) : 64 + Long.bitCount((keys.hi & -keys.hi) - 1);
            return Bag.oneName(name);
        }

        // What texts has worked out, as flags.
        private long folded() {
            if (texts.kind != STRING) {
                return constant(texts.kind, texts.data);
            }
            int name = texts.find();
            return name >= 0 && name < shape.names ? Bag.oneName(name) : Bag.ALL_STRINGS;
        }

        // ---- signs

        // The first two operands come into x and y; of PUT those below the value.
        private void takeOperands(int op) {
            int high = op == PUT ? now.height - 1 : now.height;
            if (op == UNARY) {
                now.takeSet(high - 1, x);
            } else if (op >= GET && op <= BINARY) {
                now.takeSet(high - 2, x);
                now.takeSet(high - 1, y);
            }
        }

        // The object is in x, the name in y.
        private void get() {
            keysOf(y);
            if (x.hasValues(Bag.NOTHING)) {
                error(TYPE_ERROR);
            }
            r.clear();
            if (x.hasValues(1L << TRUE | 1L << FALSE | 1L << NAN | Bag.ONE_NUMBER | Bag.ALL_NUMBERS)) {
                r.joinFlags(1L << UNDEFINED);
            }
            if (x.hasLabels() && now.gather(keys, x, r)) {
                r.joinFlags(1L << UNDEFINED);
            }
            if (x.hasValues(Bag.ONE_STRING | Bag.ALL_STRINGS)) {
                getOfString();
            }
            if (x.hasLabels() && r.bits == 1L << UNDEFINED && !r.hasLabels()) {
                warning |= 8;
            }
            goOnWith(2, r);
        }

        private void getOfString() {
            if (keys.has(LENGTH)) {
                r.joinFlags(x.isAlone() ? Bag.oneNumber(texts.lengthOf(x.data())) : Bag.ALL_NUMBERS);
                keys.lo &= ~(1L << LENGTH);
            }
            z.become(0);
            z.add(STRING_PROTO);
            if (now.gather(keys, z, r)) {
                r.joinFlags(1L << UNDEFINED);
            }
        }

        private void put() {
            if (x.hasValues(Bag.NOTHING)) {
                error(TYPE_ERROR);
            }
            if (!x.hasValues(Bag.VALUES & ~Bag.NOTHING) && !x.hasLabels()) {
                return;
            }
            keysOf(y);
            now.takeSet(now.height - 1, r);
            now.write(x, keys, r);
            if (keys.hasAny(shape.popped)) {
                now.loosenLengths(x);
            }
            now.drop(3);
            now.push(r);
            goOn(at + 1);
        }

        private void delete() {
            if (x.hasValues(Bag.NOTHING)) {
                error(TYPE_ERROR);
            }
            if (!x.hasValues(Bag.VALUES & ~Bag.NOTHING) && !x.hasLabels()) {
                return;
            }
            keysOf(y);
            z.become(Bag.ABSENT);
            now.write(x, keys, z);
            r.become(1L << TRUE);
            if (x.hasAny(shape.arrays) && keys.has(LENGTH)) {
                boolean lengthsAlone = x.isOnly(shape.arrays) && keys.size() == 1;
                r.become(lengthsAlone ? 1L << FALSE : Bag.TRUTHS);
            }
            goOnWith(2, r);
        }

        private void unary(int a) {
            r.clear();
            if (a == 4) {
                typeOf(x, false);
            } else if (x.isAlone()) {
                texts.unary(a, x.kind(), x.data());
                r.bits = folded();
            } else if (a == 3) {
                r.bits = (x.mayBeFalse() ? 1L << TRUE : 0) | (x.mayBeTrue() ? 1L << FALSE : 0);
            } else {
                r.bits = a == 2 ? Bag.ALL_NUMBERS : Bag.ALL_NUMBERS | 1L << NAN;
            }
            goOnWith(1, r);
        }

        private void binary(int a) {
            r.clear();
            if (x.isAlone() && y.isAlone()) {
                texts.binary(a, x.kind(), x.data(), y.kind(), y.data());
                r.bits = folded();
            } else if (a == 0) {
                if (hasText(x) || hasText(y)) {
                    r.bits = Bag.ALL_STRINGS;
                }
                if (hasOther(x) && hasOther(y)) {
                    r.bits |= Bag.ALL_NUMBERS | 1L << NAN;
                }
            } else if (a <= 4) {
                r.bits = Bag.ALL_NUMBERS | 1L << NAN;
            } else {
                r.bits = a <= 10 ? Bag.ALL_NUMBERS : Bag.TRUTHS;
            }
            goOnWith(2, r);
        }

        private static boolean hasText(Bag set) {
            return set.hasValues(Bag.ONE_STRING | Bag.ALL_STRINGS) || set.hasLabels();
        }

        private static boolean hasOther(Bag set) {
            return set.hasValues(Bag.VALUES & ~(Bag.ONE_STRING | Bag.ALL_STRINGS));
        }

        // Whether the keys of x can be read from y.
        private void isIn() {
            keysOf(x);
            if (y.hasValues(Bag.VALUES)) {
                error(TYPE_ERROR);
            }
            r.clear();
            boolean missed = y.hasLabels() && now.gather(keys, y, r);
            r.become((r.isEmpty() ? 0 : 1L << TRUE) | (missed ? 1L << FALSE : 0));
            goOnWith(2, r);
        }

        private void isInstance() {
            keys.become(0);
            keys.add(PROTOTYPE);
            boolean others = !y.isOnly(shape.functions);
            y.pick(y, shape.functions);
            r.clear();
            boolean missed = now.gather(keys, y, r);
            if (others || missed || r.hasValues(Bag.VALUES)) {
                error(TYPE_ERROR);
            }
            long truths = x.hasLabels() ? Bag.TRUTHS : 1L << FALSE;
            r.become(r.hasLabels() ? truths : 0);
            goOnWith(2, r);
        }

        // ---- the stack and places

        private void shuffle(int op) {
            int high = now.height;
            now.takeSet(high - 1, x);
            switch (op) {
                case DROP: now.drop(1); break;
                case COPY: now.push(x); break;
                case COPY_TWO:
                    now.takeSet(high - 2, y);
                    now.push(y);
                    now.push(x);
                    break;
                default:
                    now.takeSet(high - 2, y);
                    now.takeSet(high - 3, z);
                    now.drop(3);
                    now.push(x);
                    now.push(z);
                    now.push(y);
                    now.push(x);
                    break;
            }
            goOn(at + 1);
        }

        private void flow(int op, int a) {
            now.takeSet(now.height - 1, x);
            switch (op) {
                case JUMP: goOn(a); break;
                case UNLESS:
                    now.drop(1);
                    branch(x.mayBeFalse(), a, 0);
                    branch(x.mayBeTrue(), at + 1, 0);
                    break;
                case AND:
                case OR:
                    branch(op == AND ? x.mayBeFalse() : x.mayBeTrue(), a, 0);
                    branch(op == AND ? x.mayBeTrue() : x.mayBeFalse(), at + 1, 1);
                    break;
                case RETURN:
                    way.takeStack(now, 0);
                    way.push(x);
                    warning &= ~NO_WAY;
                    join(endOf(code.fn[at]), way, now.rows, 0);
                    break;
                case THROW: hurl(x); break;
                case NAMES_OF:
                    now.drop(1);
                    r.become(0);
                    now.push(r);
                    goOn(at + 1);
                    break;
                case NEXT:
                    r.become(Bag.ALL_STRINGS);
                    now.push(r);
                    goOn(at + 1);
                    now.drop(2);
                    goOn(a);
                    break;
                default: goOn(at + 1); break;
            }
        }

        private void branch(boolean open, int place, int many) {
            if (open) {
                now.drop(many);
                warning &= ~NO_WAY;
                join(place, now, now.rows, 0);
            }
        }

        // ---- calls

        private void call(int many) {
            int end = now.height;
            int first = end - many - 2;
            int callee = first + 1;
            int self = first;
            int next = first + 2;
            for (int i = 0; i <= many + 2; i++) {
                now.takeSet(callee, x);
                if (!x.isOnly(shape.functions)) {
                    error(TYPE_ERROR);
                }
                for (int l = PRINT; l < FIRST_OBJECTS; l++) {
                    if (x.has(l) && l != CALL_NATIVE) {
                        now.takeSet(self, y);
                        if (!suits(l, y)) {
                            error(TYPE_ERROR);
                        }
                        callNative(l, first, next < end ? next : -1);
                    }
                }
                if (x.hasAny(shape.coded)) {
                    error(RANGE_ERROR);
                }
                for (int g = 1; g < code.functions; g++) {
                    if (isCalled(g)) {
                        enter(g, self, next, end, -1);
                        comeBack(g, first, -1);
                    }
                }
                if (!x.has(CALL_NATIVE)) {
                    return;
                }
                callee = self;
                self = next < end ? next : -1;
                next++;
            }
        }

        private void construct(int many, int site) {
            int end = now.height;
            int first = end - many - 1;
            now.takeSet(first, x);
            if (!x.isOnly(shape.makers)) {
                error(TYPE_ERROR);
            }
            for (int l = MAKE_OBJECT; l <= LAST_ERROR; l++) {
                if (x.has(l) && l != IS_NAN) {
                    callNative(l, first, many > 0 ? first + 1 : -1);
                }
            }
            if (!x.hasAny(shape.coded)) {
                return;
            }
            int made = code.siteLabel(site);
            makeThis(made);
            error(RANGE_ERROR);
            for (int g = 1; g < code.functions; g++) {
                if (isCalled(g)) {
                    enter(g, -1, first + 1, end, made);
                    comeBack(g, first, made);
                }
            }
        }

        // The object of NEW, whose PROTO is read from the functions in x.
        private void makeThis(int made) {
            now.make(made, FIRST_PROTO);
            keys.become(0);
            keys.add(PROTOTYPE);
            y.pick(x, shape.coded);
            r.clear();
            boolean others = now.gather(keys, y, r) || r.hasValues(Bag.VALUES);
            now.setProtos(made, r);
            if (others) {
                now.addProto(made, FIRST_PROTO);
            }
        }

        // Whether function g is among those in x.
        private boolean isCalled(int g) {
            int l = code.functionLabel(g);
            if (!x.has(l) && !x.has(l + 1)) {
                return false;
            }
            called[at] |= 1 << g;
            return true;
        }

        // The way into function g, one of those in x; of NEW's this is the object that it made.
        private void enter(int g, int self, int next, int end, int made) {
            int scope = code.scopeLabel(g);
            int l = code.functionLabel(g);
            way.copy(now);
            way.make(scope, NONE);
            for (int older = 0; older < 2; older++) {
                if (x.has(l + older)) {
                    way.joinLink(scope, l + older);
                }
            }
            for (int i = 0; i < code.variableCount[g]; i++) {
                int name = code.variables[g][i];
                boolean parameter = i < code.parameters[g];
                way.takeSet(parameter && next + i < end ? next + i : -1, z);
                if (!parameter && name == code.own[g]) {
                    z.become(0);
                    z.lo = x.lo & pairLow(l);
                    z.hi = x.hi & pairHigh(l);
                }
                way.setField(scope, name, z);
            }
            if (made >= 0) {
                z.become(0);
                z.add(made);
            } else {
                way.takeSet(self, z);
            }
            way.setThis(z);
            way.setScope(scope);
            way.height = 0;
            join(code.first[g], way, way.rows, 0);
        }

        private static long pairLow(int l) {
            return l >= 64 ? 0 : 3L << l;
        }

        private static long pairHigh(int l) {
            if (l >= 64) {
                return 3L << l - 64;
            }
            return l == 63 ? 1 : 0;
        }

        // The ways back from function g, in place of what the call took.
        private void comeBack(int g, int first, int made) {
            int end = endOf(g);
            if (reached[end]) {
                z.take(cells, stackOf(end));
                if (made >= 0 && z.hasValues(Bag.VALUES)) {
                    z.add(made);
                    z.add(made + 1);
                }
                if (made >= 0) {
                    z.bits = 0;
                }
                way.takeStack(now, first);
                way.age();
                way.push(z);
                warning &= ~NO_WAY;
                join(at + 1, way, cells, offset[end] + HEAD);
            }
            if (reached[end + 1]) {
                z.take(cells, stackOf(end + 1));
                way.takeStack(now, handlerHeight());
                way.age();
                way.push(z);
                join(handler(), way, cells, offset[end + 1] + HEAD);
            }
        }

        // ---- natives

        private boolean suits(int l, Bag self) {
            switch (l) {
                case PUSH:
                case POP: return self.isOnly(shape.arrays);
                case HAS_OWN: return !self.hasValues(Bag.VALUES);
                case CHAR_AT:
                    return !self.hasLabels() && !self.hasValues(Bag.VALUES & ~(Bag.ONE_STRING | Bag.ALL_STRINGS));
                default: return true;
            }
        }

        // The way of native l; this is in y, the first argument lies at that place, or is none.
        private void callNative(int l, int first, int argument) {
            now.takeSet(argument, z);
            r.clear();
            switch (l) {
                case PRINT: r.joinFlags(1L << UNDEFINED); break;
                case MAKE_OBJECT: r.add(OBJECT_LABEL); break;
                case MAKE_ARRAY: r.add(ARRAY_LABEL); break;
                case MAKE_STRING: r.joinFlags(argument < 0 ? Bag.oneName(N_EMPTY) : textOf(z)); break;
                case IS_NAN: r.joinFlags(isNaN(z)); break;
                case PUSH: r.joinFlags(y.hasAny(shape.arrays) ? Bag.ALL_NUMBERS : 0); break;
                case POP: popped(); break;
                case HAS_OWN: r.joinFlags(hasOwn()); break;
                case CHAR_AT: r.joinFlags(hasStrings(y) ? Bag.ALL_STRINGS : 0); break;
                default: r.add(ERROR_LABEL + l - MAKE_ERROR); break;
            }
            if (r.isEmpty()) {
                return;
            }
            way.takeStack(now, first);
            way.push(r);
            warning &= ~NO_WAY;
            join(at + 1, way, now.rows, 0);
            int maker = l - MAKE_ERROR;
            if (l == PUSH || l == POP) {
                changeArrays(l);
            } else if (l == MAKE_OBJECT) {
                addRow(at + 1, OBJECT_LABEL, FIRST_PROTO, -1, 0);
            } else if (l == MAKE_ARRAY) {
                addRow(at + 1, ARRAY_LABEL, ARRAY_PROTO, LENGTH, Bag.oneNumber(0));
            } else if (maker >= 0 && l <= LAST_ERROR) {
                long message = argument < 0 ? 0 : textOf(z);
                addRow(at + 1, ERROR_LABEL + maker, ERROR_PROTO + maker, argument < 0 ? -1 : MESSAGE, message);
            }
        }

        private static boolean hasStrings(Bag set) {
            return set.hasValues(Bag.ONE_STRING | Bag.ALL_STRINGS);
        }

        private long isNaN(Bag set) {
            if (!set.isAlone()) {
                return Bag.TRUTHS;
            }
            return texts.number(set.kind(), set.data()) == Texts.NO_NUMBER ? 1L << TRUE : 1L << FALSE;
        }

        private void popped() {
            for (int l = 0; l < shape.labels; l++) {
                for (int n = 0; y.has(l) && shape.arrays.has(l) && now.isThere(l) && n <= shape.names; n++) {
                    if (shape.popped.has(n)) {
                        r.join(now.rows, now.cellOf(l, n));
                    }
                }
            }
            r.bits &= ~Bag.ABSENT;
            if (y.hasAny(shape.arrays)) {
                r.joinFlags(1L << UNDEFINED);
            }
        }

        private long hasOwn() {
            keysOf(z);
            long flags = 0;
            for (int n = 0; n <= shape.names; n++) {
                if (keys.has(n)) {
                    now.own(y, n, other);
                    flags |= (other.isEmpty() ? 0 : 1L << TRUE) | (other.hasValues(Bag.ABSENT) ? 1L << FALSE : 0);
                }
            }
            return flags;
        }

        // What push and pop change in the arrays of y behind the call.
        private void changeArrays(int changer) {
            long grown = 0;
            for (int l = 0; l < shape.labels; l++) {
                if (!y.has(l) || !shape.arrays.has(l) || !now.isThere(l)) {
                    continue;
                }
                int fields = rowOf(at + 1, l) + Shape.FIELDS;
                for (int n = 0; n <= shape.names; n++) {
                    int cell = fields + 3 * n;
                    if (changer == POP && shape.popped.has(n)) {
                        grown |= joinFlags(cell, Bag.ABSENT);
                    } else if (changer == PUSH && shape.pushed.has(n)) {
                        grown |= joinFlags(cell, z.bits);
                        grown |= z.lo & ~cells[cell + 1] | z.hi & ~cells[cell + 2];
                        cells[cell + 1] |= z.lo;
                        cells[cell + 2] |= z.hi;
                    }
                }
                grown |= joinFlags(fields + 3 * LENGTH, Bag.ALL_NUMBERS);
            }
            if (grown != 0) {
                enqueue(at + 1);
            }
        }
    }
}
