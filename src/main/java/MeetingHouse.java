import java.util.Arrays;

/**
 * A language of processes that stand side by side and meet over channels: its texts are read, its rules are
 * looked at in four rounds, and its programs are run step by step in the order that a seed chooses.
 */
public final class MeetingHouse {
    public static final int NONE = -1;

    // The TYPE of something, and what else its SPEC tells.
    private static final int INT = 1;
    private static final int BYTE = 2;
    private static final int BOOL = 3;
    private static final int TYPE = 3;
    private static final int CHAN = 8;
    private static final int ARRAY = 16;
    private static final int VAL = 32;
    private static final int FORMAL = 64;
    private static final int ABBREVIATED = 128;
    private static final int CONSTANT = 256;
    private static final int SHAPE = TYPE | CHAN | ARRAY;

    // Tokens; the words of the language are WORD and their place in the alphabet.
    private static final int END = 0;
    private static final int LINE_END = 1;
    private static final int BAD = 2;
    private static final int NAME = 3;
    private static final int NUMBER = 4;
    private static final int CHARACTER = 5;
    private static final int STRING = 6;
    private static final int WORD = 10;
    private static final int W_AFTER = 10;
    private static final int W_ALT = 11;
    private static final int W_AND = 12;
    private static final int W_BOOL = 13;
    private static final int W_BYTE = 14;
    private static final int W_CASE = 15;
    private static final int W_CHAN = 16;
    private static final int W_ELSE = 17;
    private static final int W_FALSE = 18;
    private static final int W_FOR = 19;
    private static final int W_FUNCTION = 20;
    private static final int W_IF = 21;
    private static final int W_INT = 22;
    private static final int W_IS = 23;
    private static final int W_MINUS = 24;
    private static final int W_MOSTNEG = 25;
    private static final int W_MOSTPOS = 26;
    private static final int W_NOT = 27;
    private static final int W_OF = 28;
    private static final int W_OR = 29;
    private static final int W_PAR = 30;
    private static final int W_PLUS = 31;
    private static final int W_PRI = 32;
    private static final int W_PROC = 33;
    private static final int W_PROTOCOL = 34;
    private static final int W_RESULT = 35;
    private static final int W_SEQ = 36;
    private static final int W_SIZE = 37;
    private static final int W_SKIP = 38;
    private static final int W_STOP = 39;
    private static final int W_TIMER = 40;
    private static final int W_TIMES = 41;
    private static final int W_TRUE = 42;
    private static final int W_VAL = 43;
    private static final int W_VALOF = 44;
    private static final int W_WHILE = 45;
    private static final int LEFT = 50;
    private static final int RIGHT = 51;
    private static final int OPEN = 52;
    private static final int CLOSE = 53;
    private static final int COMMA = 54;
    private static final int SEMICOLON = 55;
    private static final int COLON = 56;
    private static final int BECOMES = 57;
    private static final int ASK = 58;
    private static final int TELL = 59;
    private static final int AMPERSAND = 60;
    private static final int EQUAL = 61;
    private static final int UNEQUAL = 62;
    private static final int LESS = 63;
    private static final int AT_MOST = 64;
    private static final int MORE = 65;
    private static final int AT_LEAST = 66;
    private static final int ADD = 67;
    private static final int SUBTRACT = 68;
    private static final int MULTIPLY = 69;
    private static final int DIVIDE = 70;
    private static final int REMAINDER = 71;
    private static final int BIT_AND = 72;
    private static final int BIT_OR = 73;
    private static final int BIT_XOR = 74;
    private static final int SHIFT_LEFT = 75;
    private static final int SHIFT_RIGHT = 76;
    private static final int BIT_NOT = 77;

    // Nodes of the tree; NUMBER, CHARACTER and STRING are those of the tokens.
    private static final int PROCESS = 10;
    private static final int SKIP = 11;
    private static final int STOP = 12;
    private static final int ASSIGN = 13;
    private static final int INPUT = 14;
    private static final int INPUT_AFTER = 15;
    private static final int INPUT_CASE = 16;
    private static final int OUTPUT = 17;
    private static final int CALL = 18;
    private static final int SEQ = 19;
    private static final int PAR = 20;
    private static final int IF = 21;
    private static final int CHOICE = 22;
    private static final int CASE = 23;
    private static final int OPTION = 24;
    private static final int WHILE = 25;
    private static final int ALT = 26;
    private static final int GUARD = 27;
    private static final int VARIANT = 28;
    private static final int REPLICATOR = 29;
    private static final int VARIABLES = 30;
    private static final int CHANNELS = 31;
    private static final int TIMERS = 32;
    private static final int VALUE = 33;
    private static final int ABBREVIATION = 34;
    private static final int PROTOCOL_IS = 35;
    private static final int PROTOCOL_CASE = 36;
    private static final int TAG = 37;
    private static final int PART = 38;
    private static final int PROCEDURE = 39;
    private static final int FUNCTION = 40;
    private static final int BODY = 41;
    private static final int TOLD = 42;
    private static final int FORMAL_NAME = 43;
    private static final int KIND = 44;
    private static final int TRUTH = 45;
    private static final int CONVERSION = 46;
    private static final int INNER = 47;
    private static final int TABLE = 48;
    private static final int ELEMENT = 49;
    private static final int FUNCTION_CALL = 50;
    private static final int ONE = 51;
    private static final int TWO = 52;
    private static final int MANY = 53;

    // What a name means.
    private static final int A_VARIABLE = 1;
    private static final int A_VALUE = 2;
    private static final int A_REPLICATOR = 3;
    private static final int A_CHANNEL = 4;
    private static final int A_TIMER = 5;
    private static final int A_PROC = 6;
    private static final int A_FUNCTION = 7;
    private static final int A_PROTOCOL = 8;
    private static final int A_TAG = 9;
    private static final int SCREEN = 1;
    private static final int KEYBOARD = 2;

    // How a place is used, and what else is kept of a name.
    private static final int USED = 1;
    private static final int CHANGED = 2;
    private static final int READ = 4;
    private static final int WRITTEN = 8;
    private static final int ANY_USE = 15;
    private static final int KNOWN = 16;
    private static final int ACTS = 32;

    // The code of the machine.
    private static final int DO_ACT = 1;
    private static final int DO_LINE = 2;
    private static final int DO_JUMP = 3;
    private static final int DO_UNLESS = 4;
    private static final int DO_SWITCH = 5;
    private static final int DO_FAULT = 6;
    private static final int DO_SEQ_FIRST = 7;
    private static final int DO_SEQ_TEST = 8;
    private static final int DO_SEQ_NEXT = 9;
    private static final int DO_CALL = 10;
    private static final int DO_RETURN = 11;
    private static final int DO_FUNCTION = 12;
    private static final int DO_RESULT = 13;
    private static final int DO_PASS = 14;
    private static final int DO_END = 15;
    private static final int DO_TAKE_ROOM = 16;
    private static final int DO_COPY = 17;
    private static final int DO_KEEP_ONE = 18;
    private static final int DO_KEEP_TWO = 19;
    private static final int DO_FREE = 20;
    private static final int DO_CHECK = 21;
    private static final int DO_ASSIGN = 22;
    private static final int DO_OUTPUT = 23;
    private static final int DO_INPUT = 24;
    private static final int DO_INPUT_CASE = 25;
    private static final int DO_TAKE = 26;
    private static final int DO_CLOCK = 27;
    private static final int DO_AFTER = 28;
    private static final int DO_GUARD = 29;
    private static final int DO_GUARDS = 30;
    private static final int DO_ALT = 31;
    private static final int DO_TAKEN = 32;
    private static final int DO_PAR = 33;
    private static final int DO_PAR_EACH = 34;
    private static final int DO_PUSH = 35;
    private static final int DO_VALUE = 36;
    private static final int DO_LOAD = 37;
    private static final int DO_ELEMENT = 38;
    private static final int DO_SIZE = 39;
    private static final int DO_WHOLE = 40;
    private static final int DO_PLACE = 41;
    private static final int DO_CHANNEL = 42;
    private static final int DO_CHANNEL_OF = 43;
    private static final int DO_STRING = 44;
    private static final int DO_TABLE = 45;
    private static final int DO_ONE = 46;
    private static final int DO_TWO = 47;
    private static final int DO_MANY = 48;
    private static final int DO_CONVERT = 49;

    // What a GUARD has come to.
    private static final int GUARD_OFF = 0;
    private static final int GUARD_SKIP = 1;
    private static final int GUARD_CHANNEL = 2;
    private static final int GUARD_CLOCK = 3;
    private static final int GUARD_AFTER = 4;

    // The states of a process, and how a run is.
    private static final int READY = 0;
    private static final int WRITES = 1;
    private static final int READS = 2;
    private static final int CHOOSES = 3;
    private static final int SLEEPS = 4;
    private static final int JOINS = 5;
    private static final int KEYED = 6;
    private static final int STOPPED = 7;
    private static final int GOES_ON = 1;
    private static final int ENDED = 2;
    private static final int STANDS = 3;
    private static final int WAITS_FOR_KEY = 4;

    private static final int MOST = 2147483647;
    private static final int LEAST = -2147483648;
    private static final int MOST_BYTES = 6000;
    private static final int MOST_NODES = 6200;
    private static final int MOST_SYMBOLS = 3100;
    private static final int MOST_USES = 8200;
    private static final int MOST_ELEMENTS = 200;
    private static final int SET = 7;
    private static final int DEEPEST = 20;
    private static final int MOST_PROCESSES = 80;
    private static final int MOST_CELLS = 20000;
    private static final int MOST_NAMES = 400;
    private static final int MOST_MESSAGE = 1000;

    private final Text text = new Text();
    private final Tree tree = new Tree(text);
    private final Names names = new Names(tree);
    private final Types types = new Types(tree, names);
    private final Sides sides = new Sides(tree, names);
    private final Uses uses = new Uses(tree, names, sides);
    private final Coder coder = new Coder(tree, names);
    private final Machine machine = new Machine(coder, text);
    private boolean hasProgram;

    public MeetingHouse() {
        hasProgram = false;
    }

    public int feed(int a, int b, int c, int d, int e) {
        if (text.length + 20 > MOST_BYTES) {
            return NONE;
        }
        text.append(a);
        text.append(b);
        text.append(c);
        text.append(d);
        text.append(e);
        return text.length;
    }

    public int back(int n) {
        if (n < 0 || n > text.length) {
            return NONE;
        }
        text.length -= n;
        return text.length;
    }

    public int read() {
        text.cut();
        text.length = 0;
        tree.grow();
        if (tree.fault == 0) {
            names.resolve();
        }
        if (tree.fault == 0) {
            types.check();
        }
        if (tree.fault == 0) {
            uses.gather();
        }
        if (tree.fault == 0) {
            sides.compare(uses);
        }
        hasProgram = tree.fault == 0;
        if (hasProgram) {
            coder.translate();
        }
        machine.begun = false;
        return tree.fault;
    }

    public int count(int what) {
        if (what < 0 || what > 13) {
            return NONE;
        }
        if (what == 3) {
            return text.length;
        }
        if (what > 3) {
            return machine.tally(what);
        }
        if (!hasProgram) {
            return 0;
        }
        return what == 0 ? text.tokens : what == 1 ? text.lines : types.told;
    }

    public void begin(int seed) throws IllegalStateException {
        if (!hasProgram) {
            throw new IllegalStateException("there is no program");
        }
        machine.start(seed);
    }

    public int run(int n) throws IllegalArgumentException, IllegalStateException {
        if (n < 0 || n > 2000) {
            throw new IllegalArgumentException("not 0 .. 2000 steps");
        }
        if (!machine.begun) {
            throw new IllegalStateException("no run has begun");
        }
        int done = 0;
        while (done < n && machine.step()) {
            done++;
        }
        return done;
    }

    public boolean key(int b) {
        return machine.press(b & 255);
    }

    public int output(int i) {
        return machine.shown(i);
    }

    public int process(int p, int what) {
        return machine.tellProcess(p, what);
    }

    public int cell(int i) {
        return machine.tellCell(i);
    }

    public int meeting(int k, int what) {
        return machine.tellMeeting(k, what);
    }

    /**
     * What side by side goes badly with one another is refused ahead of every run: rounds three and four take more
     * places for common than a run can come to, so that no run of a program that was read has a clash.
     */
    public int clashes() {
        return 0;
    }

    /** The tape, and the tokens that it is cut into. */
    private static final class Text {
        private static final String WORDS_TO_INT = "AFTER ALT AND BOOL BYTE CASE CHAN ELSE FALSE FOR FUNCTION IF INT ";
        private static final String WORDS_TO_SEQ = "IS MINUS MOSTNEG MOSTPOS NOT OF OR PAR PLUS PRI PROC PROTOCOL RESULT SEQ ";
        private static final String WORDS_TO_KEYBOARD = "SIZE SKIP STOP TIMER TIMES TRUE VAL VALOF WHILE screen keyboard ";
        private static final int WORDS = 36;
        private static final String SIGNS_OF_TWO = ":=<><=>=/\\\\/><<<>>";
        private static final int[] KINDS_OF_TWO = {57, 62, 64, 66, 72, 73, 74, 75, 76};
        private static final String SIGNS_OF_ONE = "()[],;:?!&=<>+-*/\\~";
        private static final int[] KINDS_OF_ONE = {50, 51, 52, 53, 54, 55, 56, 58, 59, 60, 61, 63, 65, 67, 68, 69, 70, 71, 77};
        private static final String ESCAPES = "nts'\"*";
        private static final int[] ESCAPED = {10, 9, 32, 39, 34, 42};
        private static final int BUCKETS = 512;

        final byte[] tape = new byte[MOST_BYTES];
        int length;
        final int[] kind = new int[MOST_BYTES + 10];
        final int[] value = new int[MOST_BYTES + 10];
        final int[] line = new int[MOST_BYTES + 10];
        /** The blanks ahead of a line's first token; -1 for all others. */
        final int[] blanks = new int[MOST_BYTES + 10];
        int tokens;
        int lines;
        /** The signs of all strings; a string's value is where it begins (times 256) and how many it has. */
        final int[] signs = new int[MOST_BYTES];
        private int signsUsed;
        private int put;
        private int at;
        private int row;
        private int meant;
        private final byte[] letters = new byte[MOST_BYTES + 400];
        private final int[] nameFrom = new int[MOST_SYMBOLS + 50];
        private final int[] nameNext = new int[MOST_SYMBOLS + 50];
        private final int[] bucket = new int[BUCKETS];
        private int names;

        void append(int four) {
            for (int shift = 24; shift >= 0; shift -= 8) {
                if (length < MOST_BYTES) {
                    tape[length] = (byte) (four >>> shift);
                    length++;
                }
            }
        }

        void cut() {
            forgetNames();
            put = 0;
            tokens = 0;
            lines = 0;
            signsUsed = 0;
            row = 1;
            int lineFrom = 0;
            boolean bare = true;
            at = 0;
            for (int turn = 0; turn <= MOST_BYTES && at < length; turn++) {
                int b = here(0);
                if (b == 10) {
                    endLine(bare);
                    bare = true;
                    row++;
                    at++;
                    lineFrom = at;
                } else if (b == 32) {
                    at++;
                } else if (b == '-' && here(1) == '-') {
                    passNote();
                } else {
                    int ahead = bare ? at - lineFrom : -1;
                    lines += bare ? 1 : 0;
                    bare = false;
                    if (!cutToken(ahead)) {
                        break;
                    }
                }
            }
            endLine(bare);
            add(END, 0, -1);
        }

        private void endLine(boolean bare) {
            if (!bare) {
                add(LINE_END, 0, -1);
            }
        }

        private void passNote() {
            while (at < length && here(0) != 10) {
                at++;
            }
        }

        /** The token that begins at a byte; false if none does, and what stands behind it is never looked at. */
        private boolean cutToken(int ahead) {
            int k = token();
            add(k, meant, ahead);
            tokens++;
            return k != BAD;
        }

        private void add(int k, int v, int ahead) {
            if (put < kind.length) {
                kind[put] = k;
                value[put] = v;
                line[put] = row;
                blanks[put] = ahead;
                put++;
            }
        }

        /** The byte that stands k behind the present one; -1 behind the tape's end. */
        private int here(int k) {
            int i = at + k;
            return i >= 0 && i < length && i < MOST_BYTES ? tape[i] & 255 : -1;
        }

        private int token() {
            int b = here(0);
            meant = 0;
            if (isLetter(b)) {
                return name();
            }
            if (isDigit(b)) {
                return decimal();
            }
            if (b == '#') {
                return sixteen();
            }
            if (b == '\'') {
                return character();
            }
            return b == '"' ? string() : sign();
        }

        private static boolean isLetter(int b) {
            return b >= 'A' && b <= 'Z' || b >= 'a' && b <= 'z';
        }

        private static boolean isDigit(int b) {
            return b >= '0' && b <= '9';
        }

        private static boolean isNamePart(int b) {
            return isLetter(b) || isDigit(b) || b == '.';
        }

        private int name() {
            int n = 0;
            while (n < 17 && isNamePart(here(n))) {
                n++;
            }
            if (n > 16) {
                return BAD;
            }
            int from = nameFrom[names];
            for (int i = 0; i < n; i++) {
                setLetter(from + i, here(i));
            }
            meant = known(n);
            at += n;
            return meant < WORDS ? WORD + meant : NAME;
        }

        private void setLetter(int i, int b) {
            if (i >= 0 && i < letters.length) {
                letters[i] = (byte) b;
            }
        }

        /** The number of the name whose n letters stand behind those of all names; a new one, if it is new. */
        private int known(int n) {
            int from = nameFrom[names];
            if (from + n > letters.length || names + 1 >= nameFrom.length) {
                return 0;
            }
            int hash = n;
            for (int i = 0; i < n; i++) {
                hash = hash * 31 + letters[from + i];
            }
            hash &= BUCKETS - 1;
            int other = bucket[hash];
            for (int tries = 0; tries <= names && other >= 0; tries++) {
                if (isSame(other, from, n)) {
                    return other;
                }
                other = nameNext[other];
            }
            nameNext[names] = bucket[hash];
            bucket[hash] = names;
            names++;
            nameFrom[names] = from + n;
            return names - 1;
        }

        private boolean isSame(int other, int from, int n) {
            int start = nameFrom[other];
            if (nameFrom[other + 1] - start != n) {
                return false;
            }
            for (int i = 0; i < n; i++) {
                if (letters[start + i] != letters[from + i]) {
                    return false;
                }
            }
            return true;
        }

        private void forgetNames() {
            Arrays.fill(bucket, -1);
            names = 0;
            nameFrom[0] = 0;
            learn(WORDS_TO_INT);
            learn(WORDS_TO_SEQ);
            learn(WORDS_TO_KEYBOARD);
        }

        private void learn(String words) {
            int n = 0;
            for (int i = 0; i < words.length(); i++) {
                char c = words.charAt(i);
                if (c == ' ') {
                    known(n);
                    n = 0;
                } else {
                    setLetter(nameFrom[names] + n, c);
                    n++;
                }
            }
        }

        private int decimal() {
            int n = 0;
            long v = 0;
            while (n < 11 && isDigit(here(n))) {
                v = v * 10 + here(n) - '0';
                n++;
            }
            return number(n, n <= 10 && v <= MOST, (int) v);
        }

        private int sixteen() {
            int n = 1;
            int v = 0;
            while (n < 10 && digitOfSixteen(here(n)) >= 0) {
                v = v << 4 | digitOfSixteen(here(n));
                n++;
            }
            return number(n, n >= 2 && n <= 9, v);
        }

        private static int digitOfSixteen(int b) {
            if (isDigit(b)) {
                return b - '0';
            }
            return b >= 'A' && b <= 'F' ? b - 'A' + 10 : -1;
        }

        private int number(int n, boolean good, int v) {
            if (!good || isNamePart(here(n))) {
                return BAD;
            }
            at += n;
            meant = v;
            return NUMBER;
        }

        /** The SIGN that begins k behind the present byte; -1 if none does. */
        private int signAt(int k) {
            int b = here(k);
            if (b == '*') {
                int c = here(k + 1);
                int i = c < 0 ? -1 : ESCAPES.indexOf((char) c);
                return i >= 0 && i < ESCAPED.length ? ESCAPED[i] : -1;
            }
            return b >= 32 && b <= 126 && b != '\'' && b != '"' ? b : -1;
        }

        private int signLength(int k) {
            return here(k) == '*' ? 2 : 1;
        }

        private int character() {
            int v = signAt(1);
            int n = 1 + signLength(1);
            if (v < 0 || here(n) != '\'') {
                return BAD;
            }
            at += n + 1;
            meant = v;
            return CHARACTER;
        }

        private int string() {
            int from = signsUsed;
            int n = 0;
            int k = 1;
            while (n < 61 && signAt(k) >= 0) {
                if (from + n < signs.length) {
                    signs[from + n] = signAt(k);
                }
                k += signLength(k);
                n++;
            }
            if (n < 1 || n > 60 || here(k) != '"') {
                return BAD;
            }
            signsUsed = from + n;
            at += k + 1;
            meant = from << 8 | n;
            return STRING;
        }

        private int sign() {
            int b = here(0);
            int c = here(1);
            for (int i = 0; i < KINDS_OF_TWO.length; i++) {
                if (SIGNS_OF_TWO.charAt(2 * i) == b && SIGNS_OF_TWO.charAt(2 * i + 1) == c) {
                    at += 2;
                    return KINDS_OF_TWO[i];
                }
            }
            int i = SIGNS_OF_ONE.indexOf((char) b);
            if (i < 0 || i >= KINDS_OF_ONE.length) {
                return BAD;
            }
            at++;
            return KINDS_OF_ONE[i];
        }
    }

    /** The tree that a text grows into; node 0 is none. The first fault stays, and ends the growing. */
    private static final class Tree {
        private static final int NOTHING = -1;

        final int[] kind = new int[MOST_NODES];
        final int[] line = new int[MOST_NODES];
        final int[] a = new int[MOST_NODES];
        final int[] b = new int[MOST_NODES];
        final int[] c = new int[MOST_NODES];
        final int[] next = new int[MOST_NODES];
        final int[] val = new int[MOST_NODES];
        /** What the rounds find out: the symbol that is meant, the type, a constant's value or an array's number. */
        final int[] sym = new int[MOST_NODES];
        final int[] type = new int[MOST_NODES];
        final int[] worth = new int[MOST_NODES];
        int root;
        int fault;
        private final Text text;
        private int nodes;
        private int at;
        private int open;
        private int kindNode;

        Tree(Text text) {
            this.text = text;
        }

        /** Of all faults of a round the one of the lowest line, of one line the least. */
        void report(int number, int where) {
            int found = where * 16 + number;
            if (fault == 0 || found < fault) {
                fault = found;
            }
        }

        void grow() {
            fault = 0;
            nodes = 1;
            at = 0;
            open = 0;
            root = block(0);
            if (!is(END)) {
                refuse();
            }
        }

        private int make(int k) {
            if (nodes >= MOST_NODES) {
                fault = fault == 0 ? text.line[at] * 16 + 2 : fault;
                return 0;
            }
            int n = nodes;
            nodes++;
            kind[n] = k;
            line[n] = text.line[at];
            a[n] = 0;
            b[n] = 0;
            c[n] = 0;
            next[n] = 0;
            val[n] = 0;
            sym[n] = 0;
            type[n] = 0;
            worth[n] = 0;
            return n;
        }

        private int makeAndPass(int k) {
            int n = make(k);
            pass();
            return n;
        }

        private void pass() {
            if (fault == 0 && text.kind[at] != END && at + 1 < text.kind.length) {
                at++;
            }
        }

        private int look() {
            return fault == 0 ? text.kind[at] : NOTHING;
        }

        private int lookBehind() {
            return fault == 0 && text.kind[at] != END && at + 1 < text.kind.length ? text.kind[at + 1] : NOTHING;
        }

        private boolean is(int k) {
            return fault == 0 && text.kind[at] == k;
        }

        private int refuse() {
            if (fault == 0) {
                fault = text.line[at] * 16 + (text.kind[at] == BAD ? 1 : 2);
            }
            return 0;
        }

        private int refuseDepth() {
            if (fault == 0) {
                fault = text.line[at] * 16 + 3;
            }
            return 0;
        }

        private void expect(int k) {
            if (is(k)) {
                pass();
            } else {
                refuse();
            }
        }

        private boolean lineAt(int d) {
            return fault == 0 && text.blanks[at] == 2 * d;
        }

        /** Passes a ( or [ ; the 21st that is open in a line is refused. */
        private void passOpening(int k) {
            if (!is(k)) {
                refuse();
            } else if (open >= DEEPEST) {
                refuseDepth();
            } else {
                open++;
                pass();
            }
        }

        private void passClosing(int k) {
            expect(k);
            open--;
        }

        /** The tail of a list behind which a node has come. */
        private int behind(int tail, int node) {
            if (tail != 0 && node != 0) {
                next[tail] = node;
            }
            return node;
        }

        private static boolean isType(int k) {
            return k == W_INT || k == W_BYTE || k == W_BOOL;
        }

        private static int typeOf(int k) {
            return k == W_INT ? INT : k == W_BYTE ? BYTE : BOOL;
        }

        private boolean startsDeclaration() {
            int k = look();
            return isType(k) || k == OPEN || k == W_CHAN || k == W_TIMER || k == W_VAL || k == W_PROTOCOL || k == W_PROC;
        }

        private boolean startsAction() {
            int k = look();
            return k == NAME || k == W_SKIP || k == W_STOP || k == W_SEQ || k == W_PAR || k == W_IF || k == W_CASE
                    || k == W_WHILE || k == W_PRI || k == W_ALT;
        }

        private static boolean isSingle(int k) {
            return k == SUBTRACT || k == BIT_NOT || k == W_NOT || k == W_MINUS || k == W_SIZE;
        }

        private static boolean isOperator(int k) {
            return k >= EQUAL && k <= SHIFT_RIGHT || k == W_PLUS || k == W_MINUS || k == W_TIMES || k == W_AFTER;
        }

        private boolean startsExpression() {
            int k = look();
            return isSingle(k) || isType(k) || k == NUMBER || k == CHARACTER || k == STRING || k == W_TRUE || k == W_FALSE
                    || k == W_MOSTPOS || k == W_MOSTNEG || k == LEFT || k == OPEN || k == NAME;
        }

        private int block(int d) {
            if (!lineAt(d) || !startsDeclaration() && !startsAction()) {
                return refuse();
            }
            if (d > DEEPEST) {
                return refuseDepth();
            }
            int node = make(PROCESS);
            a[node] = declarations(d);
            if (!lineAt(d) || !startsAction()) {
                return refuse();
            }
            b[node] = action(d);
            return node;
        }

        private int declarations(int d) {
            int head = 0;
            int tail = 0;
            for (int n = 0; n < MOST_NODES && lineAt(d) && startsDeclaration(); n++) {
                tail = behind(tail, declaration(d));
                head = head == 0 ? tail : head;
            }
            return head;
        }

        private int action(int d) {
            switch (look()) {
                case W_SKIP:
                    return bareAction(SKIP);
                case W_STOP:
                    return bareAction(STOP);
                case W_SEQ:
                    return group(SEQ, d);
                case W_PAR:
                    return group(PAR, d);
                case W_IF:
                    return choices(d);
                case W_CASE:
                    return options(d);
                case W_WHILE:
                    return loop(d);
                case W_PRI:
                case W_ALT:
                    return alternatives(d);
                default:
                    return lookBehind() == LEFT ? call() : elementAction(d);
            }
        }

        private int bareAction(int k) {
            int node = makeAndPass(k);
            expect(LINE_END);
            return node;
        }

        private int call() {
            int node = make(CALL);
            a[node] = text.value[at];
            pass();
            b[node] = arguments();
            expect(LINE_END);
            return node;
        }

        private int arguments() {
            passOpening(LEFT);
            int head = is(RIGHT) ? 0 : expressions();
            passClosing(RIGHT);
            return head;
        }

        private int expressions() {
            int head = expression();
            int tail = head;
            for (int n = 0; n < MOST_NODES && is(COMMA); n++) {
                pass();
                tail = behind(tail, expression());
            }
            return head;
        }

        private int elementAction(int d) {
            int first = element();
            if (is(ASK)) {
                return inputAction(first, d);
            }
            if (is(TELL)) {
                return outputAction(first);
            }
            int node = make(ASSIGN);
            a[node] = first;
            int tail = first;
            for (int n = 1; n < MOST_NODES && is(COMMA); n++) {
                pass();
                tail = behind(tail, n < 8 ? element() : refuse());
            }
            expect(BECOMES);
            b[node] = expressions();
            expect(LINE_END);
            return node;
        }

        private int outputAction(int channel) {
            int node = makeAndPass(OUTPUT);
            a[node] = channel;
            b[node] = expression();
            int tail = b[node];
            for (int n = 1; n < MOST_NODES && is(SEMICOLON); n++) {
                pass();
                tail = behind(tail, n < 16 ? expression() : refuse());
            }
            expect(LINE_END);
            return node;
        }

        private int inputAction(int channel, int d) {
            int node = input(channel);
            expect(LINE_END);
            if (kind[node] == INPUT_CASE) {
                b[node] = variants(d + 1);
            }
            return node;
        }

        private int input(int channel) {
            int node = make(INPUT);
            expect(ASK);
            a[node] = channel;
            if (is(W_AFTER)) {
                kind[node] = INPUT_AFTER;
                pass();
                b[node] = expression();
            } else if (is(W_CASE)) {
                kind[node] = INPUT_CASE;
                pass();
            } else {
                b[node] = element();
                int tail = b[node];
                for (int n = 1; n < MOST_NODES && is(SEMICOLON); n++) {
                    pass();
                    tail = behind(tail, n < 16 ? element() : refuse());
                }
            }
            return node;
        }

        private int variants(int d) {
            if (!lineAt(d) || !is(NAME)) {
                return refuse();
            }
            if (d > DEEPEST) {
                return refuseDepth();
            }
            int head = 0;
            int tail = 0;
            for (int n = 0; n < MOST_NODES && lineAt(d); n++) {
                tail = behind(tail, variant(d));
                head = head == 0 ? tail : head;
            }
            return head;
        }

        private int variant(int d) {
            if (!is(NAME)) {
                return refuse();
            }
            int node = make(VARIANT);
            a[node] = text.value[at];
            pass();
            int tail = 0;
            for (int n = 0; n < MOST_NODES && is(SEMICOLON); n++) {
                pass();
                tail = behind(tail, n < 16 ? element() : refuse());
                b[node] = b[node] == 0 ? tail : b[node];
            }
            expect(LINE_END);
            c[node] = block(d + 1);
            return node;
        }

        private int group(int k, int d) {
            int node = makeAndPass(k);
            b[node] = replicator();
            expect(LINE_END);
            if (b[node] != 0) {
                a[node] = block(d + 1);
                return node;
            }
            int tail = 0;
            for (int n = 0; n < MOST_NODES && lineAt(d + 1); n++) {
                tail = behind(tail, block(d + 1));
                a[node] = a[node] == 0 ? tail : a[node];
            }
            return node;
        }

        private int replicator() {
            if (!is(NAME)) {
                return 0;
            }
            int node = make(REPLICATOR);
            a[node] = text.value[at];
            pass();
            expect(EQUAL);
            b[node] = expression();
            expect(W_FOR);
            c[node] = expression();
            return node;
        }

        private int choices(int d) {
            int node = makeAndPass(IF);
            expect(LINE_END);
            int tail = 0;
            for (int n = 0; n < MOST_NODES && lineAt(d + 1); n++) {
                tail = behind(tail, choice(d + 1));
                a[node] = a[node] == 0 ? tail : a[node];
            }
            return node;
        }

        private int choice(int d) {
            if (!startsExpression()) {
                return refuse();
            }
            if (d > DEEPEST) {
                return refuseDepth();
            }
            int node = make(CHOICE);
            a[node] = expression();
            expect(LINE_END);
            b[node] = block(d + 1);
            return node;
        }

        private int options(int d) {
            int node = makeAndPass(CASE);
            b[node] = expression();
            expect(LINE_END);
            int tail = 0;
            boolean last = false;
            for (int n = 0; n < MOST_NODES && !last && lineAt(d + 1); n++) {
                last = is(W_ELSE);
                tail = behind(tail, option(d + 1));
                a[node] = a[node] == 0 ? tail : a[node];
            }
            return node;
        }

        private int option(int d) {
            if (!is(W_ELSE) && !startsExpression()) {
                return refuse();
            }
            if (d > DEEPEST) {
                return refuseDepth();
            }
            int node = make(OPTION);
            if (is(W_ELSE)) {
                pass();
            } else {
                a[node] = expressions();
            }
            expect(LINE_END);
            b[node] = block(d + 1);
            return node;
        }

        private int loop(int d) {
            int node = makeAndPass(WHILE);
            a[node] = expression();
            expect(LINE_END);
            b[node] = block(d + 1);
            return node;
        }

        private int alternatives(int d) {
            int node = make(ALT);
            if (is(W_PRI)) {
                c[node] = 1;
                pass();
            }
            expect(W_ALT);
            b[node] = replicator();
            expect(LINE_END);
            if (b[node] != 0) {
                a[node] = lineAt(d + 1) ? guard(d + 1) : refuse();
                return node;
            }
            int tail = 0;
            for (int n = 0; n < MOST_NODES && lineAt(d + 1); n++) {
                tail = behind(tail, guard(d + 1));
                a[node] = a[node] == 0 ? tail : a[node];
            }
            return node;
        }

        private int guard(int d) {
            if (!is(W_SKIP) && !startsExpression()) {
                return refuse();
            }
            if (d > DEEPEST) {
                return refuseDepth();
            }
            int node = make(GUARD);
            int first = is(W_SKIP) ? 0 : expression();
            if (first != 0 && is(AMPERSAND)) {
                a[node] = first;
                pass();
                first = is(W_SKIP) ? 0 : element();
            } else if (first != 0 && kind[first] != ELEMENT) {
                return refuse();
            }
            if (first == 0) {
                expect(W_SKIP);
            } else {
                b[node] = input(first);
            }
            expect(LINE_END);
            if (b[node] != 0 && kind[b[node]] == INPUT_CASE) {
                b[b[node]] = variants(d + 1);
            } else {
                c[node] = block(d + 1);
            }
            return node;
        }

        private int declaration(int d) {
            switch (look()) {
                case W_TIMER:
                    return timers();
                case W_VAL:
                    return value();
                case W_PROTOCOL:
                    return protocol(d);
                case W_PROC:
                    return procedure(d);
                default:
                    return isType(look()) && lookBehind() == W_FUNCTION ? function(d) : variables();
            }
        }

        private int told() {
            if (!is(NAME)) {
                return refuse();
            }
            int node = make(TOLD);
            a[node] = text.value[at];
            pass();
            return node;
        }

        private void endDeclaration() {
            expect(COLON);
            expect(LINE_END);
        }

        private int timers() {
            int node = makeAndPass(TIMERS);
            a[node] = told();
            moreNames(a[node]);
            endDeclaration();
            return node;
        }

        private void moreNames(int first) {
            int tail = first;
            for (int n = 0; n < MOST_NODES && is(COMMA); n++) {
                pass();
                tail = behind(tail, told());
            }
        }

        /** TYPE, or (where there may be channels) CHAN OF KIND; a KIND that is a name is left in kindNode. */
        private int plainSpec(boolean channels) {
            int chan = channels && is(W_CHAN) ? CHAN : 0;
            kindNode = 0;
            if (chan != 0) {
                pass();
                expect(W_OF);
            }
            int k = look();
            if (isType(k)) {
                pass();
                return chan | typeOf(k);
            }
            if (chan == 0 || k != NAME) {
                return refuse();
            }
            kindNode = make(KIND);
            a[kindNode] = text.value[at];
            pass();
            return chan;
        }

        private int openSpec(boolean channels) {
            if (!is(OPEN)) {
                return plainSpec(channels);
            }
            passOpening(OPEN);
            passClosing(CLOSE);
            return ARRAY | plainSpec(channels);
        }

        private int value() {
            int node = makeAndPass(VALUE);
            c[node] = VAL | openSpec(false);
            a[node] = told();
            expect(W_IS);
            b[node] = expression();
            endDeclaration();
            return node;
        }

        private int variables() {
            int node = make(VARIABLES);
            int spec = 0;
            boolean unsized = false;
            if (is(OPEN)) {
                passOpening(OPEN);
                unsized = is(CLOSE);
                b[node] = unsized ? 0 : expression();
                passClosing(CLOSE);
                spec = ARRAY;
            }
            spec |= plainSpec(true);
            c[node] = spec;
            val[node] = kindNode;
            a[node] = told();
            if (unsized || (spec & ARRAY) == 0 && is(W_IS)) {
                kind[node] = ABBREVIATION;
                expect(W_IS);
                b[node] = element();
            } else {
                kind[node] = (spec & CHAN) != 0 ? CHANNELS : VARIABLES;
                moreNames(a[node]);
            }
            endDeclaration();
            return node;
        }

        private int protocol(int d) {
            int node = makeAndPass(PROTOCOL_IS);
            a[node] = told();
            if (is(W_IS)) {
                pass();
                b[node] = parts();
                endDeclaration();
                return node;
            }
            kind[node] = PROTOCOL_CASE;
            expect(LINE_END);
            startInside(d + 1, W_CASE);
            expect(W_CASE);
            expect(LINE_END);
            startInside(d + 2, NAME);
            int tail = 0;
            for (int n = 0; n < MOST_NODES && lineAt(d + 2); n++) {
                tail = behind(tail, tag());
                b[node] = b[node] == 0 ? tail : b[node];
            }
            endInside(d);
            return node;
        }

        /** A line that has to begin with one token, which is not passed. */
        private void startInside(int d, int k) {
            if (!lineAt(d) || !is(k)) {
                refuse();
            } else if (d > DEEPEST) {
                refuseDepth();
            }
        }

        private void endInside(int d) {
            if (!lineAt(d) || !is(COLON)) {
                refuse();
            }
            endDeclaration();
        }

        private int tag() {
            if (!is(NAME)) {
                return refuse();
            }
            int node = make(TAG);
            a[node] = text.value[at];
            pass();
            if (is(SEMICOLON)) {
                pass();
                b[node] = parts();
            }
            expect(LINE_END);
            return node;
        }

        private int parts() {
            int head = 0;
            int tail = 0;
            for (int n = 0; n < MOST_NODES && (n == 0 || is(SEMICOLON)); n++) {
                if (n > 0) {
                    pass();
                }
                if (n >= 16) {
                    return refuse();
                }
                int node = make(PART);
                if (is(OPEN)) {
                    passOpening(OPEN);
                    a[node] = expression();
                    passClosing(CLOSE);
                }
                val[node] = plainSpec(false);
                tail = behind(tail, node);
                head = head == 0 ? tail : head;
            }
            return head;
        }

        private int procedure(int d) {
            int node = makeAndPass(PROCEDURE);
            a[node] = told();
            b[node] = formals();
            expect(LINE_END);
            c[node] = block(d + 1);
            endInside(d);
            return node;
        }

        private int formals() {
            passOpening(LEFT);
            int head = 0;
            if (!is(RIGHT)) {
                head = formal(0);
                int tail = head;
                for (int n = 1; n < MOST_NODES && is(COMMA); n++) {
                    pass();
                    tail = behind(tail, n < 8 ? formal(tail) : refuse());
                }
            }
            passClosing(RIGHT);
            return head;
        }

        private int formal(int ahead) {
            int node = make(FORMAL_NAME);
            if (is(NAME) && ahead != 0) {
                c[node] = c[ahead];
                val[node] = val[ahead];
            } else {
                boolean isVal = is(W_VAL);
                if (isVal) {
                    pass();
                }
                c[node] = openSpec(!isVal) | FORMAL | (isVal ? VAL : 0);
                val[node] = kindNode;
            }
            if (!is(NAME)) {
                return refuse();
            }
            a[node] = text.value[at];
            pass();
            return node;
        }

        private int function(int d) {
            int node = make(FUNCTION);
            val[node] = typeOf(look());
            pass();
            expect(W_FUNCTION);
            a[node] = told();
            b[node] = formals();
            int body = make(BODY);
            c[node] = body;
            if (is(W_IS)) {
                pass();
                c[body] = expression();
                endDeclaration();
                return node;
            }
            expect(LINE_END);
            if (!lineAt(d + 1) || !startsDeclaration() && !is(W_VALOF)) {
                return refuse();
            }
            if (d + 1 > DEEPEST) {
                return refuseDepth();
            }
            a[body] = declarations(d + 1);
            startInside(d + 1, W_VALOF);
            expect(W_VALOF);
            expect(LINE_END);
            b[body] = block(d + 2);
            startInside(d + 2, W_RESULT);
            expect(W_RESULT);
            line[body] = text.line[at];
            c[body] = expression();
            expect(LINE_END);
            endInside(d);
            return node;
        }

        private int element() {
            if (!is(NAME)) {
                return refuse();
            }
            int node = make(ELEMENT);
            a[node] = text.value[at];
            pass();
            if (is(OPEN)) {
                passOpening(OPEN);
                b[node] = expression();
                passClosing(CLOSE);
            }
            return node;
        }

        private int expression() {
            int k = look();
            if (isSingle(k)) {
                int single = makeAndPass(ONE);
                val[single] = k;
                a[single] = operand();
                return single;
            }
            int left = operand();
            k = look();
            if (isOperator(k)) {
                int two = makeAndPass(TWO);
                val[two] = k;
                a[two] = left;
                b[two] = operand();
                return two;
            }
            return k == W_AND || k == W_OR ? chain(left, k) : left;
        }

        private int chain(int first, int k) {
            int node = make(MANY);
            val[node] = k;
            a[node] = first;
            int tail = first;
            for (int n = 0; n < MOST_NODES && is(k); n++) {
                pass();
                tail = behind(tail, operand());
            }
            return node;
        }

        private int operand() {
            int k = look();
            if (isType(k)) {
                return conversion(k);
            }
            switch (k) {
                case NUMBER:
                case CHARACTER:
                case STRING:
                    return literal(k, text.value[at]);
                case W_TRUE:
                    return literal(TRUTH, 1);
                case W_FALSE:
                    return literal(TRUTH, 0);
                case W_MOSTPOS:
                    return extreme(MOST);
                case W_MOSTNEG:
                    return extreme(LEAST);
                case LEFT:
                    return inner();
                case OPEN:
                    return table();
                default:
                    return lookBehind() == LEFT && k == NAME ? functionCall() : element();
            }
        }

        private int literal(int k, int v) {
            int node = make(k);
            val[node] = v;
            pass();
            return node;
        }

        private int extreme(int v) {
            int node = make(NUMBER);
            val[node] = v;
            pass();
            expect(W_INT);
            return node;
        }

        private int conversion(int k) {
            int node = make(CONVERSION);
            val[node] = typeOf(k);
            passOpening(k);
            a[node] = operand();
            open--;
            return node;
        }

        private int inner() {
            int node = make(INNER);
            passOpening(LEFT);
            a[node] = expression();
            passClosing(RIGHT);
            return node;
        }

        private int table() {
            int node = make(TABLE);
            passOpening(OPEN);
            a[node] = expressions();
            passClosing(CLOSE);
            return node;
        }

        private int functionCall() {
            int node = make(FUNCTION_CALL);
            a[node] = text.value[at];
            pass();
            b[node] = arguments();
            return node;
        }
    }

    /** What the names mean, and the first round. Symbols are numbered in the order in which they become known. */
    private static final class Names {
        private static final int IN_VALUES = 1 << A_VARIABLE | 1 << A_VALUE | 1 << A_REPLICATOR;

        final int[] kind = new int[MOST_SYMBOLS];
        final int[] spec = new int[MOST_SYMBOLS];
        /** Of an array its number (-1: none), of a CONSTANT its value, of a tag its place in its PROTOCOL. */
        final int[] number = new int[MOST_SYMBOLS];
        /** The PROTOCOL of a channel or a tag; 0 if it has none. */
        final int[] of = new int[MOST_SYMBOLS];
        final int[] node = new int[MOST_SYMBOLS];
        final int[] flags = new int[MOST_SYMBOLS];
        final int[] slot = new int[MOST_SYMBOLS];
        int symbols;
        private final Tree tree;
        private final int[] title = new int[MOST_SYMBOLS];
        private final int[] before = new int[MOST_SYMBOLS];
        private final int[] latest = new int[MOST_SYMBOLS + 50];
        private final int[] stamps = new int[MOST_SYMBOLS + 50];
        private final int[] visible = new int[MOST_SYMBOLS];
        private int seen;
        private int stamp;

        Names(Tree tree) {
            this.tree = tree;
        }

        void resolve() {
            Arrays.fill(latest, 0);
            Arrays.fill(stamps, 0);
            stamp = 0;
            seen = 0;
            symbols = 1;
            define(A_CHANNEL, 36, CHAN | BYTE, 0);
            define(A_CHANNEL, 37, CHAN | INT, 0);
            block(tree.root);
        }

        private int define(int k, int name, int itsSpec, int itsNode) {
            if (symbols >= MOST_SYMBOLS || name < 0 || name >= latest.length || seen >= MOST_SYMBOLS) {
                return 0;
            }
            int s = symbols;
            symbols++;
            kind[s] = k;
            spec[s] = itsSpec;
            number[s] = -1;
            of[s] = 0;
            node[s] = itsNode;
            flags[s] = 0;
            slot[s] = 0;
            title[s] = name;
            before[s] = latest[name];
            latest[name] = s;
            visible[seen] = s;
            seen++;
            return s;
        }

        private void hide(int mark) {
            while (seen > mark && seen > 0) {
                seen--;
                int s = visible[seen];
                latest[title[s]] = before[s];
            }
        }

        /** 4, if a name stands in the list that this stamp is for already. */
        private void stampName(int name, int line) {
            if (name < 0 || name >= stamps.length) {
                return;
            }
            if (stamps[name] == stamp) {
                tree.report(4, line);
            }
            stamps[name] = stamp;
        }

        private int meaning(int name, int line, int allowed) {
            int s = name >= 0 && name < latest.length ? latest[name] : 0;
            if (s == 0) {
                tree.report(5, line);
                return 0;
            }
            if ((allowed >> kind[s] & 1) == 0) {
                tree.report(6, line);
                return 0;
            }
            return s;
        }

        private int kindMeant(int kindNode) {
            if (kindNode == 0) {
                return 0;
            }
            tree.sym[kindNode] = meaning(tree.a[kindNode], tree.line[kindNode], 1 << A_PROTOCOL);
            return tree.sym[kindNode];
        }

        private void block(int n) {
            int mark = seen;
            declarations(tree.a[n]);
            action(tree.b[n]);
            hide(mark);
        }

        private void blocks(int head) {
            for (int n = head; n != 0; n = tree.next[n]) {
                block(n);
            }
        }

        private void declarations(int head) {
            for (int n = head; n != 0; n = tree.next[n]) {
                declaration(n);
            }
        }

        private void declaration(int n) {
            switch (tree.kind[n]) {
                case VARIABLES:
                    expression(tree.b[n], false);
                    defineList(n, A_VARIABLE);
                    break;
                case CHANNELS:
                    expression(tree.b[n], false);
                    defineList(n, A_CHANNEL);
                    break;
                case TIMERS:
                    defineList(n, A_TIMER);
                    break;
                case VALUE:
                    expression(tree.b[n], false);
                    defineList(n, A_VALUE);
                    break;
                case ABBREVIATION:
                    abbreviation(n);
                    break;
                case PROTOCOL_IS:
                    parts(tree.b[n]);
                    defineList(n, A_PROTOCOL);
                    break;
                case PROTOCOL_CASE:
                    tags(n);
                    break;
                case PROCEDURE:
                    procedure(n);
                    break;
                default:
                    function(n);
                    break;
            }
        }

        private void defineList(int n, int k) {
            int protocol = k == A_CHANNEL ? kindMeant(tree.val[n]) : 0;
            stamp++;
            for (int t = tree.a[n]; t != 0; t = tree.next[t]) {
                stampName(tree.a[t], tree.line[t]);
                tree.sym[t] = define(k, tree.a[t], tree.c[n], n);
                of[tree.sym[t]] = protocol;
            }
        }

        private void abbreviation(int n) {
            boolean channel = (tree.c[n] & CHAN) != 0;
            int protocol = kindMeant(tree.val[n]);
            element(tree.b[n], channel ? 1 << A_CHANNEL : 1 << A_VARIABLE);
            int t = tree.a[n];
            tree.sym[t] = define(channel ? A_CHANNEL : A_VARIABLE, tree.a[t], tree.c[n] | ABBREVIATED, n);
            of[tree.sym[t]] = protocol;
        }

        private void parts(int head) {
            for (int p = head; p != 0; p = tree.next[p]) {
                expression(tree.a[p], false);
            }
        }

        private void tags(int n) {
            for (int t = tree.b[n]; t != 0; t = tree.next[t]) {
                parts(tree.b[t]);
            }
            defineList(n, A_PROTOCOL);
            int protocol = tree.sym[tree.a[n]];
            stamp++;
            int place = 0;
            for (int t = tree.b[n]; t != 0; t = tree.next[t]) {
                stampName(tree.a[t], tree.line[t]);
                int s = define(A_TAG, tree.a[t], 0, t);
                tree.sym[t] = s;
                of[s] = protocol;
                number[s] = place;
                place++;
            }
        }

        private void procedure(int n) {
            int mark = seen;
            tree.val[n] = symbols;
            formals(tree.b[n], false);
            block(tree.c[n]);
            hide(mark);
            defineList(n, A_PROC);
        }

        private void function(int n) {
            int mark = seen;
            int body = tree.c[n];
            tree.worth[n] = symbols;
            formals(tree.b[n], true);
            declarations(tree.a[body]);
            if (tree.b[body] != 0) {
                block(tree.b[body]);
            }
            expression(tree.c[body], false);
            hide(mark);
            int t = tree.a[n];
            tree.sym[t] = define(A_FUNCTION, tree.a[t], tree.val[n], n);
        }

        private void formals(int head, boolean ofFunction) {
            for (int f = head; f != 0; f = tree.next[f]) {
                int protocol = kindMeant(tree.val[f]);
                if (ofFunction && (tree.c[f] & VAL) == 0) {
                    tree.report(6, tree.line[f]);
                }
                tree.type[f] = protocol;
            }
            stamp++;
            for (int f = head; f != 0; f = tree.next[f]) {
                stampName(tree.a[f], tree.line[f]);
                int its = tree.c[f];
                int k = (its & VAL) != 0 ? A_VALUE : (its & CHAN) != 0 ? A_CHANNEL : A_VARIABLE;
                int s = define(k, tree.a[f], its, f);
                tree.sym[f] = s;
                of[s] = tree.type[f];
            }
        }

        private void action(int n) {
            switch (tree.kind[n]) {
                case ASSIGN:
                    elements(tree.a[n], 1 << A_VARIABLE);
                    expressions(tree.b[n], false);
                    break;
                case INPUT:
                case INPUT_AFTER:
                case INPUT_CASE:
                    input(n);
                    break;
                case OUTPUT:
                    outputAction(n);
                    break;
                case CALL:
                    tree.sym[n] = meaning(tree.a[n], tree.line[n], 1 << A_PROC);
                    expressions(tree.b[n], true);
                    break;
                case SEQ:
                case PAR:
                    group(n);
                    break;
                case IF:
                case CASE:
                    choices(n);
                    break;
                case WHILE:
                    expression(tree.a[n], false);
                    block(tree.b[n]);
                    break;
                case ALT:
                    alternatives(n);
                    break;
                default:
                    break;
            }
        }

        private void group(int n) {
            int mark = seen;
            tree.c[n] = symbols;
            replicator(tree.b[n]);
            blocks(tree.a[n]);
            hide(mark);
        }

        private void replicator(int r) {
            if (r == 0) {
                return;
            }
            expression(tree.b[r], false);
            expression(tree.c[r], false);
            tree.sym[r] = define(A_REPLICATOR, tree.a[r], INT | VAL, r);
        }

        private void choices(int n) {
            expression(tree.kind[n] == CASE ? tree.b[n] : 0, false);
            for (int o = tree.a[n]; o != 0; o = tree.next[o]) {
                expressions(tree.a[o], false);
                block(tree.b[o]);
            }
        }

        private void alternatives(int n) {
            int mark = seen;
            replicator(tree.b[n]);
            for (int g = tree.a[n]; g != 0; g = tree.next[g]) {
                expression(tree.a[g], false);
                if (tree.b[g] != 0) {
                    input(tree.b[g]);
                }
                if (tree.c[g] != 0) {
                    block(tree.c[g]);
                }
            }
            hide(mark);
        }

        private void input(int n) {
            if (tree.kind[n] == INPUT_AFTER) {
                element(tree.a[n], 1 << A_TIMER);
                expression(tree.b[n], false);
            } else if (tree.kind[n] == INPUT) {
                boolean single = tree.next[tree.b[n]] == 0;
                element(tree.a[n], single ? 1 << A_CHANNEL | 1 << A_TIMER : 1 << A_CHANNEL);
                elements(tree.b[n], 1 << A_VARIABLE);
            } else {
                element(tree.a[n], 1 << A_CHANNEL);
                for (int v = tree.b[n]; v != 0; v = tree.next[v]) {
                    tree.sym[v] = meaning(tree.a[v], tree.line[v], 1 << A_TAG);
                    elements(tree.b[v], 1 << A_VARIABLE);
                    block(tree.c[v]);
                }
            }
        }

        private void outputAction(int n) {
            element(tree.a[n], 1 << A_CHANNEL);
            int first = tree.b[n];
            int protocol = of[tree.sym[tree.a[n]]];
            if (protocol != 0 && tree.kind[node[protocol]] == PROTOCOL_CASE && tree.kind[first] == ELEMENT
                    && tree.b[first] == 0) {
                tree.sym[first] = meaning(tree.a[first], tree.line[first], 1 << A_TAG);
                expressions(tree.next[first], false);
            } else {
                expressions(first, false);
            }
        }

        private void elements(int head, int allowed) {
            for (int e = head; e != 0; e = tree.next[e]) {
                element(e, allowed);
            }
        }

        private void element(int e, int allowed) {
            tree.sym[e] = meaning(tree.a[e], tree.line[e], allowed);
            expression(tree.b[e], false);
        }

        private void expressions(int head, boolean ofProc) {
            for (int e = head; e != 0; e = tree.next[e]) {
                expression(e, ofProc);
            }
        }

        private void expression(int e, boolean ofProc) {
            switch (tree.kind[e]) {
                case ELEMENT:
                    element(e, ofProc ? IN_VALUES | 1 << A_CHANNEL : IN_VALUES);
                    break;
                case FUNCTION_CALL:
                    tree.sym[e] = meaning(tree.a[e], tree.line[e], 1 << A_FUNCTION);
                    expressions(tree.b[e], false);
                    break;
                case CONVERSION:
                case INNER:
                case ONE:
                    expression(tree.a[e], false);
                    break;
                case TWO:
                    expression(tree.a[e], false);
                    expression(tree.b[e], false);
                    break;
                case TABLE:
                case MANY:
                    expressions(tree.a[e], false);
                    break;
                default:
                    break;
            }
        }
    }

    /** The second round: types, numbers and constants. A type of 0 is none, and fits. */
    private static final class Types {
        int told;
        private final Tree tree;
        private final Names names;
        private final int[] marks = new int[MOST_SYMBOLS];
        private int mark;
        private int cells;

        Types(Tree tree, Names names) {
            this.tree = tree;
            this.names = names;
        }

        void check() {
            told = 0;
            cells = 0;
            mark = 0;
            Arrays.fill(marks, 0);
            block(tree.root);
        }

        private static boolean isNone(int t) {
            return (t & (TYPE | CHAN)) == 0;
        }

        private static boolean fits(int t, int wanted) {
            return isNone(t) || (t & SHAPE) == wanted;
        }

        private void want(int e, int wanted) {
            if (!fits(type(e), wanted)) {
                tree.report(7, tree.line[e]);
            }
        }

        private boolean isConstant(int e) {
            return (tree.type[e] & CONSTANT) != 0;
        }

        private void block(int n) {
            declarations(tree.a[n]);
            action(tree.b[n]);
        }

        private void declarations(int head) {
            for (int n = head; n != 0; n = tree.next[n]) {
                tell(n);
                declaration(n);
            }
        }

        private void tell(int n) {
            for (int t = tree.a[n]; t != 0; t = tree.next[t]) {
                told++;
            }
            if (told > MOST_NAMES) {
                tree.report(9, tree.line[n]);
            }
        }

        private void declaration(int n) {
            switch (tree.kind[n]) {
                case VARIABLES:
                case CHANNELS:
                    room(n);
                    break;
                case VALUE:
                    value(n);
                    break;
                case ABBREVIATION:
                    abbreviation(n);
                    break;
                case PROTOCOL_IS:
                    parts(n, 0);
                    break;
                case PROTOCOL_CASE:
                    for (int t = tree.b[n]; t != 0; t = tree.next[t]) {
                        parts(t, 1);
                    }
                    break;
                case PROCEDURE:
                    block(tree.c[n]);
                    break;
                case FUNCTION:
                    function(n);
                    break;
                default:
                    break;
            }
        }

        private void room(int n) {
            int size = tree.b[n] == 0 ? 1 : arrayNumber(tree.b[n]);
            for (int t = tree.a[n]; t != 0; t = tree.next[t]) {
                names.number[tree.sym[t]] = tree.b[n] == 0 ? -1 : size;
                cells += size;
            }
            if (cells > MOST_CELLS) {
                tree.report(9, tree.line[n]);
            }
        }

        private int arrayNumber(int e) {
            want(e, INT);
            int size = tree.worth[e];
            if (!isConstant(e) || size < 1 || size > MOST_ELEMENTS) {
                tree.report(9, tree.line[e]);
                return 1;
            }
            return size;
        }

        private void value(int n) {
            int e = tree.b[n];
            int s = tree.sym[tree.a[n]];
            int t = type(e);
            if (!fits(t, tree.c[n] & SHAPE)) {
                tree.report(7, tree.line[n]);
            } else if ((t & ARRAY) != 0) {
                names.number[s] = tree.worth[e];
            } else if (isConstant(e)) {
                names.spec[s] |= CONSTANT;
                names.number[s] = tree.worth[e];
            }
        }

        private void abbreviation(int n) {
            int e = tree.b[n];
            int s = tree.sym[tree.a[n]];
            int t = type(e);
            boolean same = isNone(t)
                    || (t & SHAPE) == (tree.c[n] & SHAPE) && names.of[tree.sym[e]] == names.of[s];
            if (!same) {
                tree.report(7, tree.line[n]);
            } else if ((t & ARRAY) != 0) {
                names.number[s] = tree.worth[e];
            }
        }

        private void parts(int n, int tagCells) {
            int sum = tagCells;
            for (int p = tree.b[n]; p != 0; p = tree.next[p]) {
                tree.worth[p] = tree.a[p] == 0 ? 1 : arrayNumber(tree.a[p]);
                sum += tree.worth[p];
            }
            if (sum > MOST_MESSAGE) {
                tree.report(9, tree.line[n]);
            }
        }

        private void function(int n) {
            int body = tree.c[n];
            declarations(tree.a[body]);
            if (tree.b[body] != 0) {
                block(tree.b[body]);
            }
            want(tree.c[body], tree.val[n]);
        }

        private void action(int n) {
            switch (tree.kind[n]) {
                case ASSIGN:
                    assign(n);
                    break;
                case INPUT:
                case INPUT_AFTER:
                case INPUT_CASE:
                    input(n);
                    break;
                case OUTPUT:
                    outputAction(n);
                    break;
                case CALL:
                    parameters(n);
                    break;
                case SEQ:
                case PAR:
                    replicator(tree.b[n], tree.kind[n] == PAR);
                    for (int p = tree.a[n]; p != 0; p = tree.next[p]) {
                        block(p);
                    }
                    break;
                case IF:
                    for (int o = tree.a[n]; o != 0; o = tree.next[o]) {
                        want(tree.a[o], BOOL);
                        block(tree.b[o]);
                    }
                    break;
                case CASE:
                    options(n);
                    break;
                case WHILE:
                    want(tree.a[n], BOOL);
                    block(tree.b[n]);
                    break;
                case ALT:
                    alternatives(n);
                    break;
                default:
                    break;
            }
        }

        private void assign(int n) {
            int target = tree.a[n];
            int e = tree.b[n];
            for (int i = 0; i < MOST_NODES && (target != 0 || e != 0); i++) {
                int wanted = target == 0 ? 0 : type(target);
                int t = e == 0 ? 0 : type(e);
                if (target != 0 && e != 0 && !suits(t, tree.worth[e], wanted, tree.worth[target])) {
                    tree.report(7, tree.line[n]);
                }
                if (target == 0 || e == 0) {
                    tree.report(8, tree.line[n]);
                }
                target = target == 0 ? 0 : tree.next[target];
                e = e == 0 ? 0 : tree.next[e];
            }
        }

        /** Fits, and is of as many where both are arrays whose numbers are known. */
        private static boolean suits(int t, int number, int wanted, int wantedNumber) {
            if ((t & wanted & ARRAY) != 0 && number >= 0 && wantedNumber >= 0 && number != wantedNumber) {
                return false;
            }
            return isNone(wanted) || fits(t, wanted & SHAPE);
        }

        private void input(int n) {
            int channel = tree.a[n];
            int s = tree.sym[channel];
            int t = type(channel);
            if (tree.kind[n] == INPUT_AFTER) {
                want(tree.b[n], INT);
            } else if (names.kind[s] == A_TIMER) {
                want(tree.b[n], INT);
            } else if (tree.kind[n] == INPUT) {
                message(n, t, tree.b[n]);
            } else {
                if ((t & ARRAY) != 0 || !isNone(t) && !hasTags(names.of[s])) {
                    tree.report(7, tree.line[n]);
                }
                variants(n, isNone(t) ? 0 : names.of[s]);
            }
        }

        private boolean hasTags(int protocol) {
            return protocol != 0 && tree.kind[names.node[protocol]] == PROTOCOL_CASE;
        }

        /** Parts behind ? or ! of a channel without tags. */
        private void message(int n, int t, int head) {
            int s = tree.sym[tree.a[n]];
            if ((t & ARRAY) != 0) {
                tree.report(7, tree.line[n]);
            }
            if (isNone(t)) {
                typeAll(head);
            } else if (hasTags(names.of[s])) {
                tree.report(7, tree.line[n]);
                typeAll(head);
            } else if (names.of[s] != 0) {
                compareParts(head, tree.b[names.node[names.of[s]]], tree.line[n]);
            } else {
                want(head, t & TYPE);
                if (tree.next[head] != 0) {
                    tree.report(8, tree.line[n]);
                    typeAll(tree.next[head]);
                }
            }
        }

        private void typeAll(int head) {
            for (int e = head; e != 0; e = tree.next[e]) {
                type(e);
            }
        }

        private void compareParts(int head, int parts, int line) {
            int e = head;
            int p = parts;
            for (int i = 0; i < MOST_NODES && (e != 0 || p != 0); i++) {
                if (e == 0 || p == 0) {
                    tree.report(8, line);
                }
                if (e != 0) {
                    int t = type(e);
                    int wanted = tree.val[p] | (tree.a[p] != 0 ? ARRAY : 0);
                    if (p != 0 && !suits(t, tree.worth[e], wanted, tree.worth[p])) {
                        tree.report(7, line);
                    }
                }
                e = e == 0 ? 0 : tree.next[e];
                p = p == 0 ? 0 : tree.next[p];
            }
        }

        private void variants(int n, int protocol) {
            mark++;
            for (int v = tree.b[n]; v != 0; v = tree.next[v]) {
                int tag = tree.sym[v];
                if (marks[tag] == mark) {
                    tree.report(10, tree.line[v]);
                }
                marks[tag] = mark;
                if (protocol != 0 && names.of[tag] != protocol) {
                    tree.report(7, tree.line[v]);
                    typeAll(tree.b[v]);
                } else {
                    compareParts(tree.b[v], tree.b[names.node[tag]], tree.line[v]);
                }
            }
            for (int v = tree.b[n]; v != 0; v = tree.next[v]) {
                block(tree.c[v]);
            }
        }

        private void outputAction(int n) {
            int t = type(tree.a[n]);
            int protocol = names.of[tree.sym[tree.a[n]]];
            int first = tree.b[n];
            if (isNone(t) || !hasTags(protocol)) {
                message(n, t, first);
                return;
            }
            int tag = tree.kind[first] == ELEMENT ? tree.sym[first] : 0;
            if ((t & ARRAY) != 0 || names.kind[tag] != A_TAG || names.of[tag] != protocol) {
                tree.report(7, tree.line[n]);
            }
            if (names.kind[tag] == A_TAG && names.of[tag] == protocol) {
                compareParts(tree.next[first], tree.b[names.node[tag]], tree.line[n]);
            } else {
                typeAll(first);
            }
        }

        /** The parameters of a call of a PROC, or of a FUNCTION. */
        private void parameters(int call) {
            int f = tree.b[names.node[tree.sym[call]]];
            int e = tree.b[call];
            for (int i = 0; i < MOST_NODES && (e != 0 || f != 0); i++) {
                if (e == 0 || f == 0) {
                    tree.report(8, tree.line[call]);
                }
                int t = e == 0 ? 0 : type(e);
                if (e != 0 && f != 0 && !isNone(t) && !isParameter(e, t, tree.sym[f])) {
                    tree.report(7, tree.line[call]);
                }
                e = e == 0 ? 0 : tree.next[e];
                f = f == 0 ? 0 : tree.next[f];
            }
        }

        private boolean isParameter(int e, int t, int formal) {
            if ((t & SHAPE) != (names.spec[formal] & SHAPE)) {
                return false;
            }
            if ((names.spec[formal] & VAL) != 0) {
                return true;
            }
            int s = tree.sym[e];
            return tree.kind[e] == ELEMENT && names.kind[s] == names.kind[formal] && names.of[s] == names.of[formal];
        }

        private void replicator(int r, boolean isBound) {
            if (r == 0) {
                return;
            }
            want(tree.b[r], INT);
            want(tree.c[r], INT);
            int n = tree.worth[tree.c[r]];
            if (isBound && (!isConstant(tree.b[r]) || !isConstant(tree.c[r]) || n < 0 || n > 64)) {
                tree.report(9, tree.line[r]);
            }
        }

        private void options(int n) {
            int t = type(tree.b[n]) & SHAPE;
            if (!isNone(t) && t != INT && t != BYTE) {
                tree.report(7, tree.line[n]);
                t = 0;
            }
            for (int o = tree.a[n]; o != 0; o = tree.next[o]) {
                for (int e = tree.a[o]; e != 0; e = tree.next[e]) {
                    option(n, e, t);
                }
            }
            for (int o = tree.a[n]; o != 0; o = tree.next[o]) {
                block(tree.b[o]);
            }
        }

        private void option(int n, int e, int wanted) {
            int t = type(e) & SHAPE;
            boolean good = isNone(wanted) ? isNone(t) || t == INT || t == BYTE : fits(t, wanted);
            if (!good) {
                tree.report(7, tree.line[e]);
            }
            if (!isConstant(e)) {
                tree.report(9, tree.line[e]);
            } else if (wasThere(n, e)) {
                tree.report(10, tree.line[e]);
            }
        }

        private boolean wasThere(int n, int option) {
            for (int o = tree.a[n]; o != 0; o = tree.next[o]) {
                for (int e = tree.a[o]; e != 0; e = tree.next[e]) {
                    if (e == option) {
                        return false;
                    }
                    if (isConstant(e) && tree.worth[e] == tree.worth[option]) {
                        return true;
                    }
                }
            }
            return false;
        }

        private void alternatives(int n) {
            replicator(tree.b[n], true);
            for (int g = tree.a[n]; g != 0; g = tree.next[g]) {
                if (tree.a[g] != 0) {
                    want(tree.a[g], BOOL);
                }
                if (tree.b[g] != 0) {
                    input(tree.b[g]);
                }
                if (tree.c[g] != 0) {
                    block(tree.c[g]);
                }
            }
        }

        private int type(int e) {
            int t = found(e);
            tree.type[e] = t;
            return t;
        }

        private int found(int e) {
            switch (tree.kind[e]) {
                case NUMBER:
                    return constant(e, INT, tree.val[e]);
                case CHARACTER:
                    return constant(e, BYTE, tree.val[e]);
                case TRUTH:
                    return constant(e, BOOL, tree.val[e]);
                case STRING:
                    tree.worth[e] = tree.val[e] & 255;
                    return BYTE | ARRAY;
                case INNER:
                    int t = type(tree.a[e]);
                    tree.worth[e] = tree.worth[tree.a[e]];
                    return t;
                case TABLE:
                    return table(e);
                case ELEMENT:
                    return element(e);
                case FUNCTION_CALL:
                    parameters(e);
                    return names.spec[tree.sym[e]] & TYPE;
                case CONVERSION:
                    return conversion(e);
                case ONE:
                    return single(e);
                case TWO:
                    return pair(e);
                case MANY:
                    return chain(e);
                default:
                    return 0;
            }
        }

        private int constant(int e, int t, int v) {
            tree.worth[e] = v;
            return t | CONSTANT;
        }

        /** A constant that was worked out; 9 if that would be a FAULT. */
        private int outcome(int e, int t, long r) {
            if (r >> 32 != 0) {
                return fault(e, 9);
            }
            return constant(e, t, (int) r);
        }

        private int fault(int e, int number) {
            tree.report(number, tree.line[e]);
            return 0;
        }

        private int table(int e) {
            int t = 0;
            int n = 0;
            boolean good = true;
            for (int i = tree.a[e]; i != 0; i = tree.next[i]) {
                int its = type(i) & SHAPE;
                n++;
                if (!isNone(its)) {
                    t = t == 0 ? its : t;
                    good = good && its == t && (its & (ARRAY | CHAN)) == 0;
                }
            }
            tree.worth[e] = n;
            return good ? ARRAY | t : ARRAY | fault(e, 7);
        }

        private int element(int e) {
            int s = tree.sym[e];
            int its = names.spec[s] & SHAPE;
            int index = tree.b[e];
            if (index == 0) {
                tree.worth[e] = names.number[s];
                return its | names.spec[s] & CONSTANT;
            }
            int t = type(index);
            if ((its & ARRAY) == 0 || !fits(t, INT)) {
                return fault(e, 7);
            }
            int i = tree.worth[index];
            if (isConstant(index) && (i < 0 || names.number[s] >= 0 && i >= names.number[s])) {
                return fault(e, 9);
            }
            return its & ~ARRAY;
        }

        private int conversion(int e) {
            int t = type(tree.a[e]);
            if (!isNone(t) && (t & (ARRAY | CHAN)) != 0) {
                return fault(e, 7);
            }
            if (isConstant(tree.a[e])) {
                return outcome(e, tree.val[e], converted(tree.val[e], tree.worth[tree.a[e]]));
            }
            return tree.val[e];
        }

        private int single(int e) {
            int x = tree.a[e];
            int t = type(x);
            int op = tree.val[e];
            if (op == W_SIZE) {
                if (!isNone(t) && (t & ARRAY) == 0) {
                    return fault(e, 7);
                }
                return (t & ARRAY) != 0 && tree.worth[x] >= 0 ? constant(e, INT, tree.worth[x]) : INT;
            }
            int wanted = op == W_NOT ? BOOL : INT;
            if (!fits(t, wanted)) {
                return fault(e, 7);
            }
            return isConstant(x) ? outcome(e, wanted, ofOne(op, tree.worth[x])) : wanted;
        }

        private int pair(int e) {
            int x = tree.a[e];
            int y = tree.b[e];
            int t = type(x) & SHAPE;
            int u = type(y) & SHAPE;
            int op = tree.val[e];
            boolean compares = op >= EQUAL && op <= AT_LEAST;
            boolean good;
            if (!compares) {
                good = fits(t, INT) && fits(u, INT);
            } else {
                good = isComparable(op, t) && isComparable(op, u) && (isNone(t) || fits(u, t));
            }
            if (!good) {
                return fault(e, 7);
            }
            int own = compares || op == W_AFTER ? BOOL : INT;
            return isConstant(x) && isConstant(y) ? outcome(e, own, ofTwo(op, tree.worth[x], tree.worth[y])) : own;
        }

        private static boolean isComparable(int op, int t) {
            if (isNone(t)) {
                return true;
            }
            return t == INT || t == BYTE || t == BOOL && (op == EQUAL || op == UNEQUAL);
        }

        private int chain(int e) {
            boolean good = true;
            boolean allConstant = true;
            int v = tree.val[e] == W_AND ? 1 : 0;
            for (int x = tree.a[e]; x != 0; x = tree.next[x]) {
                good = fits(type(x), BOOL) && good;
                allConstant = allConstant && isConstant(x);
                v = tree.val[e] == W_AND ? v & tree.worth[x] : v | tree.worth[x];
            }
            if (!good) {
                return fault(e, 7);
            }
            return allConstant ? constant(e, BOOL, v) : BOOL;
        }

        /** What was worked out in the lower half, its FAULT (0: none) in the upper one. */
        private static long sound(long v) {
            return (int) v & 0xFFFFFFFFL;
        }

        private static long faulty(int number) {
            return (long) number << 32;
        }

        static long converted(int t, int v) {
            int most = t == BYTE ? 255 : 1;
            return t != INT && (v < 0 || v > most) ? faulty(6) : sound(v);
        }

        static long ofOne(int op, int x) {
            switch (op) {
                case SUBTRACT:
                    return x == LEAST ? faulty(1) : sound(-x);
                case W_MINUS:
                    return sound(-x);
                case BIT_NOT:
                    return sound(~x);
                default:
                    return sound(x ^ 1);
            }
        }

        static long ofTwo(int op, int x, int y) {
            switch (op) {
                case ADD:
                    return narrowed((long) x + y);
                case SUBTRACT:
                    return narrowed((long) x - y);
                case MULTIPLY:
                    return narrowed((long) x * y);
                case DIVIDE:
                    return y == 0 ? faulty(2) : narrowed((long) x / y);
                case REMAINDER:
                    return y == 0 ? faulty(2) : sound((long) x % y);
                case W_PLUS:
                    return sound(x + y);
                case W_MINUS:
                    return sound(x - y);
                case W_TIMES:
                    return sound(x * y);
                case BIT_AND:
                    return sound(x & y);
                case BIT_OR:
                    return sound(x | y);
                case BIT_XOR:
                    return sound(x ^ y);
                case SHIFT_LEFT:
                    return y < 0 || y > 32 ? faulty(8) : sound((long) x << y);
                case SHIFT_RIGHT:
                    return y < 0 || y > 32 ? faulty(8) : sound((x & 0xFFFFFFFFL) >>> y);
                default:
                    return sound(compared(op, x, y) ? 1 : 0);
            }
        }

        private static long narrowed(long v) {
            return v < LEAST || v > MOST ? 1L << 32 : v & 0xFFFFFFFFL;
        }

        private static boolean compared(int op, int x, int y) {
            switch (op) {
                case EQUAL:
                    return x == y;
                case UNEQUAL:
                    return x != y;
                case LESS:
                    return x < y;
                case AT_MOST:
                    return x <= y;
                case MORE:
                    return x > y;
                case AT_LEAST:
                    return x >= y;
                default:
                    return x - y > 0;
            }
        }
    }

    /**
     * Who uses what, line by line, and the third round. What a PROC or FUNCTION uses from outside is kept with it;
     * its own text is jumped over where it stands, and counts where it is called.
     */
    private static final class Uses {
        static final int CALLED = 64;
        static final int JUMP = 128;
        private static final int MOST_OUTSIDE = 44000;
        private static final long HEAVIEST = 1000;

        final int[] line = new int[MOST_USES];
        /** The place's variable or channel; of a call the PROC or FUNCTION; of a jump where it goes. */
        final int[] root = new int[MOST_USES];
        final int[] index = new int[MOST_USES];
        final int[] flags = new int[MOST_USES];
        final int[] outside = new int[MOST_OUTSIDE];
        final int[] outsideFrom = new int[MOST_SYMBOLS];
        final int[] outsideTo = new int[MOST_SYMBOLS];
        final int[] pars = new int[MOST_NODES];
        int parCount;
        private final Tree tree;
        private final Names names;
        private final Sides sides;
        private final int[] gathered = new int[MOST_SYMBOLS];
        private final int[] touched = new int[MOST_SYMBOLS];
        private int uses;
        private int outsides;
        /** The first symbol of the innermost FUNCTION that is looked at; 0 outside of all. */
        private int functionFrom;
        private boolean acting;
        private long weight;

        Uses(Tree tree, Names names, Sides sides) {
            this.tree = tree;
            this.names = names;
            this.sides = sides;
        }

        void gather() {
            uses = 0;
            outsides = 0;
            parCount = 0;
            functionFrom = 0;
            acting = false;
            weight = 1;
            block(tree.root);
        }

        private void add(int where, int place, int itsIndex, int itsFlags) {
            if (uses < MOST_USES) {
                line[uses] = where;
                root[uses] = place;
                index[uses] = itsIndex;
                flags[uses] = itsFlags;
                uses++;
            }
        }

        /** The last element that an abbreviation, or one of an abbreviation, was made of. */
        private int madeOf(int element) {
            int e = element;
            for (int i = 0; i < MOST_SYMBOLS; i++) {
                int s = tree.sym[e];
                if ((names.spec[s] & ABBREVIATED) == 0) {
                    break;
                }
                e = tree.b[names.node[s]];
            }
            return e;
        }

        /** The index of the place that an element is: its own, or that of what it is an abbreviation of. */
        private int indexOf(int element) {
            int e = element;
            for (int i = 0; i < MOST_SYMBOLS && tree.b[e] == 0; i++) {
                int s = tree.sym[e];
                if ((names.spec[s] & ABBREVIATED) == 0) {
                    break;
                }
                e = tree.b[names.node[s]];
            }
            return tree.b[e];
        }

        private void place(int element, int itsFlags, int where) {
            int place = tree.sym[madeOf(element)];
            if (itsFlags != 0) {
                add(where, place, indexOf(element), itsFlags);
            }
            if ((itsFlags & CHANGED) != 0 && place < functionFrom) {
                tree.report(11, where);
            }
        }

        private void block(int n) {
            int from = uses;
            declarations(tree.a[n]);
            action(tree.b[n]);
            tree.type[n] = from;
            tree.worth[n] = uses;
        }

        private void declarations(int head) {
            for (int n = head; n != 0; n = tree.next[n]) {
                declaration(n);
            }
        }

        private void declaration(int n) {
            switch (tree.kind[n]) {
                case VALUE:
                    expression(tree.b[n]);
                    break;
                case ABBREVIATION:
                    expression(tree.b[tree.b[n]]);
                    break;
                case PROCEDURE:
                    procedure(n);
                    break;
                case FUNCTION:
                    function(n);
                    break;
                default:
                    break;
            }
        }

        private void procedure(int n) {
            boolean wasActing = acting;
            acting = false;
            int jump = uses;
            add(tree.line[n], 0, 0, JUMP);
            block(tree.c[n]);
            int s = tree.sym[tree.a[n]];
            names.flags[s] |= acting ? ACTS : 0;
            acting = acting || wasActing;
            keepOutside(s, jump, tree.val[n]);
        }

        private void function(int n) {
            int wasFrom = functionFrom;
            functionFrom = tree.worth[n];
            int jump = uses;
            int body = tree.c[n];
            add(tree.line[n], 0, 0, JUMP);
            declarations(tree.a[body]);
            if (tree.b[body] != 0) {
                block(tree.b[body]);
            }
            expression(tree.c[body]);
            functionFrom = wasFrom;
            keepOutside(tree.sym[tree.a[n]], jump, tree.worth[n]);
        }

        /** What the uses behind a jump are made of: of names from outside (below first), and of FORMALs. */
        private void keepOutside(int s, int jump, int first) {
            int marks = 0;
            if (jump < MOST_USES) {
                root[jump] = uses;
            }
            for (int i = jump + 1; i < uses; i++) {
                if (flags[i] == JUMP) {
                    i = Math.max(i, root[i] - 1);
                } else if (flags[i] == CALLED) {
                    marks = gatherCalled(root[i], first, marks);
                } else if (root[i] >= first) {
                    names.flags[root[i]] |= flags[i];
                } else {
                    marks = gatherOne(root[i], flags[i], marks);
                }
            }
            outsideFrom[s] = outsides;
            for (int i = 0; i < marks; i++) {
                if (outsides < MOST_OUTSIDE) {
                    outside[outsides] = touched[i] << 4 | gathered[touched[i]];
                    outsides++;
                }
                gathered[touched[i]] = 0;
            }
            outsideTo[s] = outsides;
        }

        private int gatherCalled(int called, int first, int marks) {
            int now = marks;
            for (int i = outsideFrom[called]; i < outsideTo[called]; i++) {
                int place = outside[i] >> 4;
                if (place < first) {
                    now = gatherOne(place, outside[i] & ANY_USE, now);
                } else {
                    names.flags[place] |= outside[i] & ANY_USE;
                }
            }
            return now;
        }

        private int gatherOne(int place, int itsFlags, int marks) {
            int now = marks;
            if (gathered[place] == 0 && now < MOST_SYMBOLS) {
                touched[now] = place;
                now++;
            }
            gathered[place] |= itsFlags & ANY_USE;
            return now;
        }

        private void act(int n) {
            acting = true;
            if (functionFrom != 0) {
                tree.report(11, tree.line[n]);
            }
        }

        private void action(int n) {
            switch (tree.kind[n]) {
                case ASSIGN:
                    expressions(tree.b[n]);
                    changes(tree.a[n], tree.line[n]);
                    break;
                case INPUT:
                case INPUT_AFTER:
                case INPUT_CASE:
                    input(n);
                    break;
                case OUTPUT:
                    outputAction(n);
                    break;
                case CALL:
                    call(n);
                    break;
                case SEQ:
                case PAR:
                    group(n);
                    break;
                case IF:
                case CASE:
                    expression(tree.kind[n] == CASE ? tree.b[n] : 0);
                    for (int o = tree.a[n]; o != 0; o = tree.next[o]) {
                        expressions(tree.a[o]);
                        block(tree.b[o]);
                    }
                    break;
                case WHILE:
                    expression(tree.a[n]);
                    block(tree.b[n]);
                    break;
                case ALT:
                    alternatives(n);
                    break;
                default:
                    break;
            }
        }

        private void changes(int head, int where) {
            for (int e = head; e != 0; e = tree.next[e]) {
                expression(tree.b[e]);
                place(e, CHANGED, where);
            }
        }

        private void input(int n) {
            int channel = tree.a[n];
            act(n);
            expression(tree.b[channel]);
            if (names.kind[tree.sym[channel]] == A_CHANNEL) {
                place(channel, READ, tree.line[n]);
                if (tree.sym[madeOf(channel)] == SCREEN) {
                    tree.report(11, tree.line[n]);
                }
            }
            if (tree.kind[n] == INPUT_AFTER) {
                expression(tree.b[n]);
            } else if (tree.kind[n] == INPUT) {
                changes(tree.b[n], tree.line[n]);
            } else {
                for (int v = tree.b[n]; v != 0; v = tree.next[v]) {
                    changes(tree.b[v], tree.line[v]);
                    block(tree.c[v]);
                }
            }
        }

        private void outputAction(int n) {
            int channel = tree.a[n];
            act(n);
            expression(tree.b[channel]);
            place(channel, WRITTEN, tree.line[n]);
            if (tree.sym[madeOf(channel)] == KEYBOARD) {
                tree.report(11, tree.line[n]);
            }
            expressions(tree.b[n]);
        }

        private void group(int n) {
            if (tree.kind[n] == PAR) {
                act(n);
                if (parCount < MOST_NODES) {
                    pars[parCount] = n;
                    parCount++;
                }
            }
            long wasWeight = weight;
            replicator(tree.b[n]);
            for (int p = tree.a[n]; p != 0; p = tree.next[p]) {
                block(p);
            }
            weight = wasWeight;
        }

        private void replicator(int r) {
            if (r == 0) {
                return;
            }
            expression(tree.b[r]);
            expression(tree.c[r]);
            int times = tree.worth[tree.c[r]];
            if ((tree.type[tree.b[r]] & tree.type[tree.c[r]] & CONSTANT) != 0 && times >= 1) {
                weight = Math.min(weight * times, HEAVIEST + 1);
                names.flags[tree.sym[r]] |= weight <= HEAVIEST ? KNOWN : 0;
            }
        }

        private void alternatives(int n) {
            act(n);
            long wasWeight = weight;
            replicator(tree.b[n]);
            for (int g = tree.a[n]; g != 0; g = tree.next[g]) {
                expression(tree.a[g]);
                if (tree.b[g] != 0) {
                    input(tree.b[g]);
                }
                if (tree.c[g] != 0) {
                    block(tree.c[g]);
                }
            }
            weight = wasWeight;
        }

        private void call(int n) {
            int s = tree.sym[n];
            int where = tree.line[n];
            if ((names.flags[s] & ACTS) != 0) {
                act(n);
            }
            int f = tree.b[names.node[s]];
            for (int e = tree.b[n]; e != 0 && f != 0; e = tree.next[e]) {
                if ((names.spec[tree.sym[f]] & VAL) != 0) {
                    expression(e);
                } else {
                    expression(tree.b[e]);
                    place(e, names.flags[tree.sym[f]] & ANY_USE, where);
                }
                f = tree.next[f];
            }
            add(where, s, 0, CALLED);
            for (int i = outsideFrom[s]; i < outsideTo[s]; i++) {
                if ((outside[i] & CHANGED) != 0 && outside[i] >> 4 < functionFrom) {
                    tree.report(11, where);
                }
            }
            if (hasCommonPlaces(n)) {
                tree.report(12, where);
            }
        }

        /** Whether a parameter without VAL has a place in common with a later one, or with what the PROC uses. */
        private boolean hasCommonPlaces(int n) {
            int s = tree.sym[n];
            int f = tree.b[names.node[s]];
            for (int e = tree.b[n]; e != 0 && f != 0; e = tree.next[e]) {
                if ((names.spec[tree.sym[f]] & VAL) == 0) {
                    int place = tree.sym[madeOf(e)];
                    int g = tree.next[f];
                    for (int other = tree.next[e]; other != 0 && g != 0; other = tree.next[other]) {
                        if ((names.spec[tree.sym[g]] & VAL) == 0 && tree.sym[madeOf(other)] == place
                                && sides.haveCommon(place, indexOf(e), indexOf(other))) {
                            return true;
                        }
                        g = tree.next[g];
                    }
                    if (isUsedBadly(s, place, names.flags[tree.sym[f]]) && sides.haveCommon(place, indexOf(e), 0)) {
                        return true;
                    }
                }
                f = tree.next[f];
            }
            return false;
        }

        /** Whether a PROC uses a place from outside that goes badly with what it does with a FORMAL. */
        private boolean isUsedBadly(int s, int place, int asFormal) {
            for (int i = outsideFrom[s]; i < outsideTo[s]; i++) {
                if (outside[i] >> 4 == place && ((outside[i] | asFormal) & (CHANGED | READ | WRITTEN)) != 0) {
                    return true;
                }
            }
            return false;
        }

        private void expressions(int head) {
            for (int e = head; e != 0; e = tree.next[e]) {
                expression(e);
            }
        }

        private void expression(int e) {
            switch (tree.kind[e]) {
                case ELEMENT:
                    expression(tree.b[e]);
                    if (names.kind[tree.sym[e]] == A_VARIABLE) {
                        place(e, USED, tree.line[e]);
                    }
                    break;
                case FUNCTION_CALL:
                    expressions(tree.b[e]);
                    add(tree.line[e], tree.sym[e], 0, CALLED);
                    break;
                case ONE:
                    expression(tree.val[e] == W_SIZE ? 0 : tree.a[e]);
                    break;
                case CONVERSION:
                case INNER:
                    expression(tree.a[e]);
                    break;
                case TWO:
                    expression(tree.a[e]);
                    expression(tree.b[e]);
                    break;
                case TABLE:
                case MANY:
                    expressions(tree.a[e]);
                    break;
                default:
                    break;
            }
        }
    }

    /** The elements that a place can be, and the fourth round. A set of elements is SET ints of bits. */
    private static final class Sides {
        private static final int MOST_PLACES = 600;
        private static final int MOST_COMBINATIONS = 1000;
        private static final int KINDS_OF_USE = 4;
        private static final int AHEAD = KINDS_OF_USE * SET;

        private final Tree tree;
        private final Names names;
        /** What REPLICATORS and VALs are bound to, with a FAULT in the upper half. */
        private final long[] bound = new long[MOST_SYMBOLS];
        private final int[] marks = new int[MOST_SYMBOLS];
        private int mark;
        private final int[] replicators = new int[MOST_SYMBOLS];
        private int replicatorCount;
        private final int[] values = new int[MOST_SYMBOLS];
        private int valueCount;
        private final int[] pair = new int[2 * SET];
        private final int[] kept = new int[MOST_USES * SET];
        private final int[] ahead = new int[MOST_PLACES * AHEAD];
        private final int[] rowOf = new int[MOST_SYMBOLS];
        private final int[] rowMark = new int[MOST_SYMBOLS];
        private int rows;
        private int parMark;
        /** The REPLICATOR of the PAR that is looked at; 0 if it has none. */
        private int own;

        Sides(Tree tree, Names names) {
            this.tree = tree;
            this.names = names;
        }

        boolean haveCommon(int place, int index, int otherIndex) {
            own = 0;
            elements(place, index, pair, 0);
            elements(place, otherIndex, pair, SET);
            for (int i = 0; i < SET; i++) {
                if ((pair[i] & pair[SET + i]) != 0) {
                    return true;
                }
            }
            return false;
        }

        private int limit(int place) {
            if ((names.spec[place] & ARRAY) == 0) {
                return 1;
            }
            int n = names.number[place];
            return n >= 0 ? Math.min(n, MOST_ELEMENTS) : MOST_ELEMENTS;
        }

        private static void include(int[] sets, int from, int i) {
            if (i >= 0 && i < MOST_ELEMENTS && from >= 0 && from + (i >> 5) < sets.length) {
                sets[from + (i >> 5)] |= 1 << (i & 31);
            }
        }

        private void elementsAsWhole(int place, int[] sets, int from) {
            int left = limit(place);
            for (int k = from; k < from + SET && k < sets.length; k++) {
                sets[k] = left >= 32 ? -1 : left > 0 ? (1 << left) - 1 : 0;
                left -= 32;
            }
        }

        /** The elements of a place with an index (0: as a whole) become the set that begins at from. */
        private void elements(int place, int index, int[] sets, int from) {
            if (index == 0 || !collect(index)) {
                elementsAsWhole(place, sets, from);
                return;
            }
            int most = limit(place);
            for (int k = from; k < from + SET && k < sets.length; k++) {
                sets[k] = 0;
            }
            bindFirst();
            for (int n = 0; n < MOST_COMBINATIONS; n++) {
                for (int i = 0; i < valueCount; i++) {
                    bound[values[i]] = workOut(tree.b[names.node[values[i]]]);
                }
                long v = workOut(index);
                if (v >> 32 == 0 && (int) v >= 0 && (int) v < most) {
                    include(sets, from, (int) v);
                }
                if (!bindNext()) {
                    break;
                }
            }
        }

        /** The REPLICATORS and VALs that an index is made of; false if it is not KNOWN. */
        private boolean collect(int index) {
            mark++;
            replicatorCount = 0;
            valueCount = 0;
            if (!collectFrom(index)) {
                return false;
            }
            for (int i = 0; i < valueCount; i++) {
                if (!collectFrom(tree.b[names.node[values[i]]])) {
                    return false;
                }
            }
            sortValues();
            return true;
        }

        private boolean collectFrom(int e) {
            if ((tree.type[e] & CONSTANT) != 0) {
                return true;
            }
            switch (tree.kind[e]) {
                case ELEMENT:
                    return tree.b[e] == 0 && collectName(tree.sym[e]);
                case ONE:
                    return tree.val[e] != W_SIZE && collectFrom(tree.a[e]);
                case CONVERSION:
                case INNER:
                    return collectFrom(tree.a[e]);
                case TWO:
                    return collectFrom(tree.a[e]) && collectFrom(tree.b[e]);
                case MANY:
                    for (int x = tree.a[e]; x != 0; x = tree.next[x]) {
                        if (!collectFrom(x)) {
                            return false;
                        }
                    }
                    return true;
                default:
                    return false;
            }
        }

        private boolean collectName(int s) {
            boolean isNew = marks[s] != mark;
            marks[s] = mark;
            if (names.kind[s] == A_REPLICATOR && (names.flags[s] & KNOWN) != 0) {
                if (isNew && replicatorCount < MOST_SYMBOLS) {
                    replicators[replicatorCount] = s;
                    replicatorCount++;
                }
                return true;
            }
            if (names.kind[s] == A_VALUE && (names.spec[s] & (FORMAL | ARRAY)) == 0) {
                if (isNew && valueCount < MOST_SYMBOLS) {
                    values[valueCount] = s;
                    valueCount++;
                }
                return true;
            }
            return false;
        }

        /** VALs are made of earlier ones alone: in the order of their symbols each finds its parts worked out. */
        private void sortValues() {
            for (int i = 1; i < valueCount; i++) {
                int s = values[i];
                int j = i;
                while (j > 0 && values[j - 1] > s) {
                    values[j] = values[j - 1];
                    j--;
                }
                values[j] = s;
            }
        }

        private int base(int replicator) {
            return tree.worth[tree.b[names.node[replicator]]];
        }

        private int times(int replicator) {
            return tree.worth[tree.c[names.node[replicator]]];
        }

        private static long plain(int v) {
            return v & 0xFFFFFFFFL;
        }

        /** All but the PAR's own REPLICATOR, which has the branch's value, begin with their bases. */
        private void bindFirst() {
            for (int i = 0; i < replicatorCount; i++) {
                if (replicators[i] != own) {
                    bound[replicators[i]] = plain(base(replicators[i]));
                }
            }
        }

        private boolean bindNext() {
            for (int i = 0; i < replicatorCount; i++) {
                int r = replicators[i];
                if (r != own) {
                    int v = (int) bound[r] + 1;
                    if (v - base(r) != times(r)) {
                        bound[r] = plain(v);
                        return true;
                    }
                    bound[r] = plain(base(r));
                }
            }
            return false;
        }

        private long workOut(int e) {
            if ((tree.type[e] & CONSTANT) != 0) {
                return plain(tree.worth[e]);
            }
            switch (tree.kind[e]) {
                case ELEMENT:
                    return bound[tree.sym[e]];
                case INNER:
                    return workOut(tree.a[e]);
                case CONVERSION:
                    long v = workOut(tree.a[e]);
                    return v >> 32 != 0 ? v : Types.converted(tree.val[e], (int) v);
                case ONE:
                    long x = workOut(tree.a[e]);
                    return x >> 32 != 0 ? x : Types.ofOne(tree.val[e], (int) x);
                case TWO:
                    long l = workOut(tree.a[e]);
                    long r = workOut(tree.b[e]);
                    return l >> 32 != 0 ? l : r >> 32 != 0 ? r : Types.ofTwo(tree.val[e], (int) l, (int) r);
                default:
                    return workOutChain(e);
            }
        }

        private long workOutChain(int e) {
            boolean isAnd = tree.val[e] == W_AND;
            long v = isAnd ? 1 : 0;
            for (int x = tree.a[e]; x != 0; x = tree.next[x]) {
                long its = workOut(x);
                if (its >> 32 != 0) {
                    return its;
                }
                v = isAnd ? v & its : v | its;
            }
            return v;
        }

        void compare(Uses uses) {
            for (int i = 0; i < uses.parCount; i++) {
                int par = uses.pars[i];
                parMark++;
                rows = 0;
                own = tree.sym[tree.b[par]];
                if (own == 0) {
                    for (int p = tree.a[par]; p != 0; p = tree.next[p]) {
                        branch(uses, par, p, true);
                    }
                }
                int n = own == 0 ? 0 : Math.min(times(own), 64);
                for (int k = 0; k < n; k++) {
                    bound[own] = plain(base(own) + k);
                    branch(uses, par, tree.a[par], k == 0);
                }
            }
        }

        /** First all uses of a branch are looked at, then they come to those of the branches ahead. */
        private void branch(Uses uses, int par, int p, boolean isFirst) {
            int from = tree.type[p];
            int to = Math.min(tree.worth[p], MOST_USES);
            for (int i = from; i < to; i++) {
                if (uses.flags[i] == Uses.JUMP) {
                    i = Math.max(i, uses.root[i] - 1);
                } else if (uses.flags[i] == Uses.CALLED) {
                    lookAtCalled(uses, i, tree.c[par]);
                } else if (uses.root[i] < tree.c[par]) {
                    if (isFirst || hangsOnOwn(uses.index[i])) {
                        elements(uses.root[i], uses.index[i], kept, i * SET);
                    }
                    lookAt(uses.root[i], uses.flags[i], uses.line[i], i * SET);
                }
            }
            for (int i = from; i < to; i++) {
                if (uses.flags[i] == Uses.JUMP) {
                    i = Math.max(i, uses.root[i] - 1);
                } else if (uses.flags[i] == Uses.CALLED) {
                    mergeCalled(uses, i, tree.c[par]);
                } else if (uses.root[i] < tree.c[par]) {
                    merge(uses.root[i], uses.flags[i], i * SET);
                }
            }
        }

        /** Elements that do not hang on the branch are worked out for the first one alone. */
        private boolean hangsOnOwn(int index) {
            if (index == 0 || (tree.type[index] & CONSTANT) != 0 || !collect(index)) {
                return false;
            }
            for (int i = 0; i < replicatorCount; i++) {
                if (replicators[i] == own) {
                    return true;
                }
            }
            return false;
        }

        private void lookAtCalled(Uses uses, int call, int first) {
            int s = uses.root[call];
            for (int i = uses.outsideFrom[s]; i < uses.outsideTo[s]; i++) {
                int place = uses.outside[i] >> 4;
                if (place < first) {
                    elementsAsWhole(place, kept, call * SET);
                    lookAt(place, uses.outside[i] & ANY_USE, uses.line[call], call * SET);
                }
            }
        }

        private void mergeCalled(Uses uses, int call, int first) {
            int s = uses.root[call];
            for (int i = uses.outsideFrom[s]; i < uses.outsideTo[s]; i++) {
                int place = uses.outside[i] >> 4;
                if (place < first) {
                    elementsAsWhole(place, kept, call * SET);
                    merge(place, uses.outside[i] & ANY_USE, call * SET);
                }
            }
        }

        private void lookAt(int place, int flags, int line, int from) {
            if (rowMark[place] != parMark) {
                return;
            }
            int row = rowOf[place] * AHEAD;
            boolean changed = meets(row + SET, from);
            if ((flags & CHANGED) != 0 && (changed || meets(row, from)) || (flags & USED) != 0 && changed) {
                tree.report(13, line);
            }
            if ((flags & WRITTEN) != 0 && meets(row + 3 * SET, from)) {
                tree.report(14, line);
            }
            if ((flags & READ) != 0 && meets(row + 2 * SET, from)) {
                tree.report(15, line);
            }
        }

        private boolean meets(int row, int from) {
            for (int k = 0; k < SET; k++) {
                if ((ahead[row + k] & kept[from + k]) != 0) {
                    return true;
                }
            }
            return false;
        }

        private void merge(int place, int flags, int from) {
            if (rowMark[place] != parMark) {
                if (rows >= MOST_PLACES) {
                    return;
                }
                rowMark[place] = parMark;
                rowOf[place] = rows;
                for (int k = 0; k < AHEAD; k++) {
                    ahead[rows * AHEAD + k] = 0;
                }
                rows++;
            }
            int row = rowOf[place] * AHEAD;
            for (int use = 0; use < KINDS_OF_USE; use++) {
                if ((flags >> use & 1) != 0) {
                    for (int k = 0; k < SET; k++) {
                        ahead[row + use * SET + k] |= kept[from + k];
                    }
                }
            }
        }
    }

    /** The code of a program. A process has a row of slots, two ints for each name that has to be kept. */
    private static final class Coder {
        private static final int MOST_CODE = 40000;

        final int[] code = new int[MOST_CODE];
        int size;
        int slots;
        /** The first slots, and the cells, of the DECLARATIONS of variables at depth 0. */
        final int[] topSlots = new int[MOST_NAMES + 1];
        final int[] topCells = new int[MOST_NAMES + 1];
        int tops;
        private final Tree tree;
        private final Names names;

        Coder(Tree tree, Names names) {
            this.tree = tree;
            this.names = names;
        }

        void translate() {
            size = 0;
            slots = 2;
            tops = 0;
            names.slot[SCREEN] = 0;
            names.slot[KEYBOARD] = 1;
            int root = tree.root;
            declarations(tree.a[root]);
            listTops(tree.a[root]);
            action(tree.b[root]);
            emit(DO_END);
        }

        int at(int pc) {
            return pc >= 0 && pc < size ? code[pc] : 0;
        }

        private void listTops(int head) {
            for (int n = head; n != 0; n = tree.next[n]) {
                if (tree.kind[n] == VARIABLES) {
                    int each = tree.b[n] == 0 ? 1 : tree.worth[tree.b[n]];
                    for (int t = tree.a[n]; t != 0 && tops < MOST_NAMES; t = tree.next[t]) {
                        topSlots[tops] = names.slot[tree.sym[t]];
                        topCells[tops] = each;
                        tops++;
                    }
                }
            }
        }

        private void emit(int word) {
            if (size < MOST_CODE) {
                code[size] = word;
                size++;
            }
        }

        private void emit(int word, int operand) {
            emit(word);
            emit(operand);
        }

        private void emit(int word, int first, int second) {
            emit(word);
            emit(first);
            emit(second);
        }

        /** Emits a word whose operand is told later, and answers where that stands. */
        private int emitHole(int word) {
            emit(word, 0);
            return size - 1;
        }

        /** Holes with one target are chained through themselves. */
        private int emitHole(int word, int earlier) {
            emit(word, earlier);
            return size - 1;
        }

        private void fill(int hole) {
            if (hole > 0 && hole < size) {
                code[hole] = size;
            }
        }

        private void fillAll(int last) {
            int hole = last;
            for (int i = 0; i < MOST_CODE && hole > 0 && hole < size; i++) {
                int earlier = code[hole];
                code[hole] = size;
                hole = earlier;
            }
        }

        private int newSlot(int s) {
            names.slot[s] = slots;
            slots++;
            return names.slot[s];
        }

        private void block(int n) {
            declarations(tree.a[n]);
            action(tree.b[n]);
            frees(tree.a[n]);
        }

        private void declarations(int head) {
            for (int n = head; n != 0; n = tree.next[n]) {
                declaration(n);
            }
        }

        private void frees(int head) {
            for (int n = head; n != 0; n = tree.next[n]) {
                int k = tree.kind[n];
                if (k == VARIABLES || k == CHANNELS || k == VALUE && (tree.c[n] & ARRAY) != 0) {
                    emit(DO_FREE, names.slot[tree.sym[tree.a[n]]]);
                }
            }
        }

        private void declaration(int n) {
            switch (tree.kind[n]) {
                case VARIABLES:
                case CHANNELS:
                    room(n);
                    break;
                case VALUE:
                    value(n);
                    break;
                case ABBREVIATION:
                    emit(DO_LINE, tree.line[n]);
                    place(tree.b[n]);
                    emit(DO_KEEP_TWO, newSlot(tree.sym[tree.a[n]]));
                    break;
                case PROCEDURE:
                    procedure(n);
                    break;
                case FUNCTION:
                    function(n);
                    break;
                default:
                    break;
            }
        }

        private void room(int n) {
            int first = slots;
            int told = 0;
            for (int t = tree.a[n]; t != 0; t = tree.next[t]) {
                newSlot(tree.sym[t]);
                told++;
            }
            emit(DO_LINE, tree.line[n]);
            emit(DO_TAKE_ROOM, first, told);
            emit(tree.b[n] == 0 ? 1 : tree.worth[tree.b[n]], tree.line[n]);
        }

        private void value(int n) {
            int s = tree.sym[tree.a[n]];
            if ((names.spec[s] & CONSTANT) != 0) {
                return;
            }
            emit(DO_LINE, tree.line[n]);
            expression(tree.b[n]);
            if ((tree.c[n] & ARRAY) != 0) {
                emit(DO_COPY);
                emit(DO_KEEP_TWO, newSlot(s));
            } else {
                emit(DO_KEEP_ONE, newSlot(s));
            }
        }

        /** The entry of a PROC or FUNCTION is kept as its symbol's number; its slot has the way back. */
        private int entry(int s, int formals) {
            int hole = emitHole(DO_JUMP);
            names.number[s] = size;
            newSlot(s);
            for (int f = formals; f != 0; f = tree.next[f]) {
                newSlot(tree.sym[f]);
            }
            int n = 0;
            for (int f = formals; f != 0; f = tree.next[f]) {
                n++;
            }
            for (int i = n; i > 0; i--) {
                keepFormal(formals, i);
            }
            return hole;
        }

        /** Formals are kept from the last one on, as their values lie on the stack. */
        private void keepFormal(int formals, int place) {
            int f = formals;
            for (int i = 1; i < place; i++) {
                f = tree.next[f];
            }
            int s = tree.sym[f];
            boolean single = (names.spec[s] & VAL) != 0 && (names.spec[s] & ARRAY) == 0;
            emit(single ? DO_KEEP_ONE : DO_KEEP_TWO, names.slot[s]);
        }

        private void freeFormals(int formals) {
            for (int f = formals; f != 0; f = tree.next[f]) {
                int its = names.spec[tree.sym[f]];
                if ((its & VAL) != 0 && (its & ARRAY) != 0) {
                    emit(DO_FREE, names.slot[tree.sym[f]]);
                }
            }
        }

        private void procedure(int n) {
            int s = tree.sym[tree.a[n]];
            int hole = entry(s, tree.b[n]);
            block(tree.c[n]);
            freeFormals(tree.b[n]);
            emit(DO_RETURN, names.slot[s]);
            fill(hole);
        }

        private void function(int n) {
            int s = tree.sym[tree.a[n]];
            int body = tree.c[n];
            int hole = entry(s, tree.b[n]);
            declarations(tree.a[body]);
            if (tree.b[body] != 0) {
                block(tree.b[body]);
            }
            expression(tree.c[body]);
            frees(tree.a[body]);
            freeFormals(tree.b[n]);
            emit(DO_RESULT, names.slot[s]);
            fill(hole);
        }

        private void action(int n) {
            switch (tree.kind[n]) {
                case SEQ:
                    sequence(n);
                    break;
                case PAR:
                    parallel(n);
                    break;
                case IF:
                    choices(n);
                    break;
                case CASE:
                    options(n);
                    break;
                case WHILE:
                    loop(n);
                    break;
                case ALT:
                    alternatives(n);
                    break;
                default:
                    emit(DO_ACT, tree.line[n]);
                    plainAction(n);
                    break;
            }
        }

        private void plainAction(int n) {
            switch (tree.kind[n]) {
                case STOP:
                    emit(DO_FAULT, 0);
                    break;
                case ASSIGN:
                    assign(n);
                    break;
                case INPUT:
                case INPUT_AFTER:
                case INPUT_CASE:
                    input(n, false);
                    break;
                case OUTPUT:
                    outputAction(n);
                    break;
                case CALL:
                    arguments(n);
                    emit(DO_CALL, names.number[tree.sym[n]], names.slot[tree.sym[n]]);
                    break;
                default:
                    break;
            }
        }

        private void assign(int n) {
            int count = 0;
            int arrays = 0;
            for (int e = tree.b[n]; e != 0; e = tree.next[e]) {
                expression(e);
                arrays |= (tree.type[e] & ARRAY) != 0 ? 1 << count : 0;
                count++;
            }
            for (int e = tree.a[n]; e != 0; e = tree.next[e]) {
                place(e);
            }
            emit(DO_ASSIGN, count, arrays);
        }

        /** An input; one that a GUARD has taken knows its channel already. */
        private void input(int n, boolean taken) {
            int k = tree.kind[n];
            if (k == INPUT_AFTER) {
                if (!taken) {
                    expression(tree.b[n]);
                    emit(DO_AFTER);
                    emit(DO_PASS);
                }
                return;
            }
            if (names.kind[tree.sym[tree.a[n]]] == A_TIMER) {
                place(tree.b[n]);
                emit(DO_CLOCK);
                return;
            }
            if (taken) {
                emit(DO_TAKEN);
            } else {
                channel(tree.a[n]);
            }
            if (k == INPUT) {
                int protocol = names.of[tree.sym[tree.a[n]]];
                emit(DO_INPUT, places(tree.b[n], protocol == 0 ? 0 : tree.b[names.node[protocol]]));
            } else {
                variants(n);
            }
        }

        /** The places behind ? , each array of the number that its PART has. */
        private int places(int head, int parts) {
            int count = 0;
            int p = parts;
            for (int e = head; e != 0; e = tree.next[e]) {
                place(e);
                checkNumber(p);
                p = tree.next[p];
                count++;
            }
            return count;
        }

        private void checkNumber(int p) {
            if (p != 0 && tree.a[p] != 0) {
                emit(DO_CHECK, tree.worth[p]);
            }
        }

        private void variants(int n) {
            int count = 0;
            for (int v = tree.b[n]; v != 0; v = tree.next[v]) {
                count++;
            }
            emit(DO_INPUT_CASE, count);
            int table = size;
            for (int v = tree.b[n]; v != 0; v = tree.next[v]) {
                emit(names.number[tree.sym[v]], 0);
            }
            int ends = 0;
            for (int v = tree.b[n]; v != 0; v = tree.next[v]) {
                fill(table + 1);
                table += 2;
                emit(DO_TAKE, places(tree.b[v], tree.b[names.node[tree.sym[v]]]));
                block(tree.c[v]);
                ends = emitHole(DO_JUMP, ends);
            }
            fillAll(ends);
        }

        private void outputAction(int n) {
            channel(tree.a[n]);
            int protocol = names.of[tree.sym[tree.a[n]]];
            int e = tree.b[n];
            int p = protocol == 0 ? 0 : tree.b[names.node[protocol]];
            int count = 0;
            int arrays = 0;
            if (tree.kind[e] == ELEMENT && names.kind[tree.sym[e]] == A_TAG) {
                emit(DO_PUSH, names.number[tree.sym[e]]);
                p = tree.b[names.node[tree.sym[e]]];
                e = tree.next[e];
                count++;
            }
            for (int i = 0; i < MOST_NODES && e != 0; i++) {
                expression(e);
                checkNumber(p);
                arrays |= (tree.type[e] & ARRAY) != 0 ? 1 << count : 0;
                count++;
                e = tree.next[e];
                p = tree.next[p];
            }
            emit(DO_OUTPUT, count, arrays);
        }

        private void arguments(int call) {
            int f = tree.b[names.node[tree.sym[call]]];
            for (int e = tree.b[call]; e != 0; e = tree.next[e]) {
                int its = names.spec[tree.sym[f]];
                if ((its & VAL) == 0) {
                    place(e);
                } else {
                    expression(e);
                    if ((its & ARRAY) != 0) {
                        emit(DO_COPY);
                    }
                }
                f = tree.next[f];
            }
        }

        private void sequence(int n) {
            int r = tree.b[n];
            if (r == 0) {
                for (int p = tree.a[n]; p != 0; p = tree.next[p]) {
                    block(p);
                }
                return;
            }
            int slot = newSlot(tree.sym[r]);
            emit(DO_ACT, tree.line[n]);
            expression(tree.b[r]);
            expression(tree.c[r]);
            emit(DO_SEQ_FIRST, slot);
            int test = size;
            emit(DO_SEQ_TEST, slot);
            emit(0);
            int hole = size - 1;
            block(tree.a[n]);
            emit(DO_SEQ_NEXT, slot);
            emit(DO_ACT, tree.line[n]);
            emit(DO_JUMP, test);
            fill(hole);
        }

        private void parallel(int n) {
            int r = tree.b[n];
            emit(DO_ACT, tree.line[n]);
            int count = 0;
            for (int p = tree.a[n]; p != 0; p = tree.next[p]) {
                count++;
            }
            int table;
            if (r == 0) {
                emit(DO_PAR, count, 0);
                table = size;
            } else {
                emit(DO_PAR_EACH, newSlot(tree.sym[r]));
                emit(tree.worth[tree.b[r]], tree.worth[tree.c[r]], 0);
                table = size;
            }
            int hole = size - 1;
            for (int i = 0; i < count; i++) {
                emit(0);
            }
            for (int p = tree.a[n]; p != 0; p = tree.next[p]) {
                fill(table);
                table++;
                block(p);
                emit(DO_END);
            }
            fill(hole);
        }

        private void choices(int n) {
            int ends = 0;
            emit(DO_ACT, tree.line[n]);
            for (int o = tree.a[n]; o != 0; o = tree.next[o]) {
                emit(DO_LINE, tree.line[o]);
                expression(tree.a[o]);
                int hole = emitHole(DO_UNLESS);
                block(tree.b[o]);
                ends = emitHole(DO_JUMP, ends);
                fill(hole);
            }
            emit(DO_LINE, tree.line[n]);
            emit(DO_FAULT, 4);
            fillAll(ends);
        }

        private void options(int n) {
            emit(DO_ACT, tree.line[n]);
            expression(tree.b[n]);
            int count = 0;
            for (int o = tree.a[n]; o != 0; o = tree.next[o]) {
                for (int e = tree.a[o]; e != 0; e = tree.next[e]) {
                    count++;
                }
            }
            emit(DO_SWITCH, count, 0);
            int table = size;
            for (int i = 0; i < count; i++) {
                emit(0, 0);
            }
            int otherwise = 0;
            int ends = 0;
            for (int o = tree.a[n]; o != 0; o = tree.next[o]) {
                otherwise = tree.a[o] == 0 ? size : otherwise;
                table = aimOptions(tree.a[o], table);
                block(tree.b[o]);
                ends = emitHole(DO_JUMP, ends);
            }
            code[Math.min(table - 2 * count - 1, MOST_CODE - 1)] = otherwise == 0 ? size : otherwise;
            if (otherwise == 0) {
                emit(DO_FAULT, 5);
            }
            fillAll(ends);
        }

        private int aimOptions(int head, int table) {
            int at = table;
            for (int e = head; e != 0 && at + 1 < MOST_CODE; e = tree.next[e]) {
                code[at] = tree.worth[e];
                code[at + 1] = size;
                at += 2;
            }
            return at;
        }

        private void loop(int n) {
            int test = size;
            emit(DO_ACT, tree.line[n]);
            expression(tree.a[n]);
            int hole = emitHole(DO_UNLESS);
            block(tree.b[n]);
            emit(DO_JUMP, test);
            fill(hole);
        }

        private void alternatives(int n) {
            int r = tree.b[n];
            int slot = r == 0 ? -1 : newSlot(tree.sym[r]);
            int count = 0;
            emit(DO_ACT, tree.line[n]);
            if (r == 0) {
                for (int g = tree.a[n]; g != 0; g = tree.next[g]) {
                    guard(g);
                    count++;
                }
            } else {
                guardsOfEach(n, slot);
                count = tree.worth[tree.c[r]];
            }
            emit(DO_LINE, tree.line[n]);
            emit(DO_GUARDS, count);
            emit(DO_ALT, tree.c[n], slot);
            emit(r == 0 ? 0 : tree.worth[tree.b[r]]);
            int table = size;
            for (int g = tree.a[n]; g != 0; g = tree.next[g]) {
                emit(0);
            }
            int ends = 0;
            for (int g = tree.a[n]; g != 0; g = tree.next[g]) {
                fill(table);
                table++;
                taken(g);
                ends = emitHole(DO_JUMP, ends);
            }
            fillAll(ends);
        }

        private void guardsOfEach(int n, int slot) {
            int r = tree.b[n];
            emit(DO_PUSH, tree.worth[tree.b[r]]);
            emit(DO_PUSH, tree.worth[tree.c[r]]);
            emit(DO_SEQ_FIRST, slot);
            int test = size;
            emit(DO_SEQ_TEST, slot);
            emit(0);
            int hole = size - 1;
            guard(tree.a[n]);
            emit(DO_SEQ_NEXT, slot);
            emit(DO_JUMP, test);
            fill(hole);
        }

        private void guard(int g) {
            emit(DO_LINE, tree.line[g]);
            int off = 0;
            if (tree.a[g] != 0) {
                expression(tree.a[g]);
                off = emitHole(DO_UNLESS);
            }
            int n = tree.b[g];
            if (n == 0) {
                emit(DO_GUARD, GUARD_SKIP);
            } else if (tree.kind[n] == INPUT_AFTER) {
                expression(tree.b[n]);
                emit(DO_GUARD, GUARD_AFTER);
            } else if (names.kind[tree.sym[tree.a[n]]] == A_TIMER) {
                emit(DO_GUARD, GUARD_CLOCK);
            } else {
                channel(tree.a[n]);
                emit(DO_GUARD, GUARD_CHANNEL);
            }
            if (off != 0) {
                int done = emitHole(DO_JUMP);
                fill(off);
                emit(DO_GUARD, GUARD_OFF);
                fill(done);
            }
        }

        private void taken(int g) {
            emit(DO_LINE, tree.line[g]);
            if (tree.b[g] != 0) {
                input(tree.b[g], true);
            }
            if (tree.c[g] != 0) {
                block(tree.c[g]);
            }
        }

        private void place(int e) {
            int slot = names.slot[tree.sym[e]];
            if (tree.b[e] == 0) {
                emit(DO_WHOLE, slot);
            } else {
                expression(tree.b[e]);
                emit(DO_PLACE, slot);
            }
        }

        private void channel(int e) {
            int slot = names.slot[tree.sym[e]];
            if (tree.b[e] == 0) {
                emit(DO_CHANNEL, slot);
            } else {
                expression(tree.b[e]);
                emit(DO_CHANNEL_OF, slot);
            }
        }

        private void expression(int e) {
            if ((tree.type[e] & CONSTANT) != 0) {
                emit(DO_PUSH, tree.worth[e]);
                return;
            }
            switch (tree.kind[e]) {
                case STRING:
                    emit(DO_STRING, tree.val[e] >> 8, tree.val[e] & 255);
                    break;
                case INNER:
                    expression(tree.a[e]);
                    break;
                case CONVERSION:
                    expression(tree.a[e]);
                    emit(DO_CONVERT, tree.val[e]);
                    break;
                case TABLE:
                    emit(DO_TABLE, expressions(tree.a[e]));
                    break;
                case ELEMENT:
                    element(e);
                    break;
                case FUNCTION_CALL:
                    arguments(e);
                    emit(DO_FUNCTION, names.number[tree.sym[e]], names.slot[tree.sym[e]]);
                    break;
                case ONE:
                    single(e);
                    break;
                case TWO:
                    expression(tree.a[e]);
                    expression(tree.b[e]);
                    emit(DO_TWO, tree.val[e]);
                    break;
                default:
                    emit(DO_MANY, tree.val[e], expressions(tree.a[e]));
                    break;
            }
        }

        private int expressions(int head) {
            int n = 0;
            for (int x = head; x != 0; x = tree.next[x]) {
                expression(x);
                n++;
            }
            return n;
        }

        private void single(int e) {
            if (tree.val[e] != W_SIZE) {
                expression(tree.a[e]);
                emit(DO_ONE, tree.val[e]);
                return;
            }
            int x = tree.a[e];
            for (int i = 0; i < MOST_NODES && tree.kind[x] == INNER; i++) {
                x = tree.a[x];
            }
            emit(DO_SIZE, names.slot[tree.sym[x]]);
        }

        private void element(int e) {
            int s = tree.sym[e];
            int slot = names.slot[s];
            if (tree.b[e] != 0) {
                expression(tree.b[e]);
                emit(DO_ELEMENT, slot);
            } else if ((names.spec[s] & ARRAY) != 0) {
                emit(DO_WHOLE, slot);
            } else {
                emit(names.kind[s] == A_VARIABLE ? DO_LOAD : DO_VALUE, slot);
            }
        }
    }

    /**
     * The cells. A block is found by its handle, so that blocks may move together when room runs out; a place is a
     * handle (times OFFSETS) and an offset. Block 0 has the two channels around the program.
     */
    private static final class Heap {
        static final int NO_ROOM = -1;
        private static final int OFFSETS = 32768;
        private static final int MOST_ROOM = 65536;
        private static final int MOST_HANDLES = MOST_CELLS + 2;

        int taken;
        private int[] cells = new int[4096];
        private int[] start = new int[512];
        private int[] length = new int[512];
        private int[] line = new int[512];
        private int[] each = new int[512];
        private int[] before = new int[512];
        private int[] after = new int[512];
        private int handles;
        private int unused;
        private int first;
        private int last;
        private int top;

        void clear() {
            taken = 0;
            start[0] = 0;
            length[0] = 2;
            line[0] = 0;
            each[0] = 1;
            handles = 1;
            unused = 0;
            first = 0;
            last = 0;
            top = 2;
        }

        /** The place of n new cells that are 0; NO_ROOM if there would be too many. */
        int take(int n, int itsLine, int itsEach) {
            if (n < 0 || taken + n > MOST_CELLS) {
                return NO_ROOM;
            }
            int h = newHandle();
            makeRoom(n);
            if (h == 0 || top + n > cells.length) {
                return NO_ROOM;
            }
            start[h] = top;
            length[h] = n;
            line[h] = itsLine;
            each[h] = itsEach;
            before[h] = last;
            after[h] = 0;
            if (last != 0) {
                after[last] = h;
            } else {
                first = h;
            }
            last = h;
            for (int i = top; i < top + n; i++) {
                cells[i] = 0;
            }
            top += n;
            taken += n;
            return h * OFFSETS;
        }

        private int newHandle() {
            if (unused != 0) {
                int h = unused;
                unused = after[h];
                return h;
            }
            if (handles >= start.length) {
                int n = Math.min(2 * start.length, MOST_HANDLES);
                start = Arrays.copyOf(start, n);
                length = Arrays.copyOf(length, n);
                line = Arrays.copyOf(line, n);
                each = Arrays.copyOf(each, n);
                before = Arrays.copyOf(before, n);
                after = Arrays.copyOf(after, n);
            }
            if (handles >= start.length) {
                return 0;
            }
            handles++;
            return handles - 1;
        }

        private void makeRoom(int n) {
            if (top + n <= cells.length) {
                return;
            }
            int at = 2;
            int h = first;
            for (int i = 0; i < handles && h != 0; i++) {
                if (start[h] != at) {
                    System.arraycopy(cells, start[h], cells, at, length[h]);
                    start[h] = at;
                }
                at += length[h];
                h = after[h];
            }
            top = at;
            // Room twice as wide as what is needed keeps the blocks from moving at every step.
            for (int i = 0; i < 8 && 2 * (top + n) > cells.length && cells.length < MOST_ROOM; i++) {
                cells = Arrays.copyOf(cells, 2 * cells.length);
            }
        }

        void free(int place) {
            int h = place / OFFSETS;
            if (h <= 0 || h >= handles) {
                return;
            }
            taken -= length[h];
            if (before[h] != 0) {
                after[before[h]] = after[h];
            } else {
                first = after[h];
            }
            if (after[h] != 0) {
                before[after[h]] = before[h];
            } else {
                last = before[h];
                top = last == 0 ? 2 : start[last] + length[last];
            }
            after[h] = unused;
            unused = h;
        }

        int get(int place) {
            int h = place / OFFSETS;
            int i = h >= 0 && h < handles ? start[h] + place % OFFSETS : -1;
            return i >= 0 && i < cells.length ? cells[i] : 0;
        }

        void put(int place, int v) {
            int h = place / OFFSETS;
            int i = h >= 0 && h < handles ? start[h] + place % OFFSETS : -1;
            if (i >= 0 && i < cells.length) {
                cells[i] = v;
            }
        }

        int lineOf(int place) {
            int h = place / OFFSETS;
            return h >= 0 && h < handles ? line[h] : 0;
        }

        int indexOf(int place) {
            int h = place / OFFSETS;
            return h >= 0 && h < handles && each[h] > 0 ? place % OFFSETS % each[h] : 0;
        }
    }

    /** A process. */
    private static final class Proc {
        final int row;
        int number;
        int state;
        int pc;
        int line;
        int fault;
        /** The row of the process whose PAR made it, and how many branches of its own PAR have not ended. */
        int parent;
        int pending;
        int calls;
        int channel;
        int wake;
        /** The GUARDs that it waits with, or the message that it waits to write. */
        int[] held = new int[16];
        int heldCount;
        boolean timed;
        boolean keyed;
        /** Where a message goes, two ints for each part; the count is NONE while it waits with ? CASE. */
        final int[] places = new int[32];
        int placeCount;

        Proc(int row) {
            this.row = row;
        }

        void hold(int[] from, int fromAt, int n) {
            for (int i = 0; i < 16 && held.length < n; i++) {
                held = new int[2 * held.length];
            }
            heldCount = Math.min(n, Math.min(held.length, from.length - fromAt));
            for (int i = 0; i < heldCount; i++) {
                held[i] = from[fromAt + i];
            }
        }

        /** The k-th GUARD's kind, and what it has come to. */
        int guardKind(int k) {
            return k >= 0 && 2 * k + 1 < heldCount ? held[2 * k] : GUARD_OFF;
        }

        int guardValue(int k) {
            return k >= 0 && 2 * k + 1 < heldCount ? held[2 * k + 1] : 0;
        }

        int guards() {
            return heldCount / 2;
        }

        boolean hasGuard(int kind, int value) {
            for (int k = 0; k + 1 < heldCount && k + 1 < held.length; k += 2) {
                if (held[k] == kind && held[k + 1] == value) {
                    return true;
                }
            }
            return false;
        }
    }

    /** The processes that are there, the clock, and what the run shows. */
    private static final class Hall {
        static final int SCREEN_PLACE = 0;
        static final int KEYBOARD_PLACE = 1;
        private static final long FARTHEST = 1L << 33;
        private static final int MOST_OUTPUT = 2000;
        private static final int MOST_INPUT = 500;
        private static final int KEPT = 64;
        private static final int FACTS = 7;

        final Proc[] procs = new Proc[MOST_PROCESSES];
        /** Their rows, by their numbers; behind them the rows that are free. */
        private final int[] order = new int[MOST_PROCESSES];
        int live;
        int made;
        int clock;
        int steps;
        private int seed;
        private final byte[] shown = new byte[MOST_OUTPUT];
        int shownCount;
        private final int[] keys = new int[MOST_INPUT];
        private int keyFrom;
        int keyCount;
        final int[] message = new int[MOST_MESSAGE + 24];
        int messageSize;
        private final int[] facts = new int[KEPT * FACTS];
        int meetings;

        Hall() {
            for (int i = 0; i < MOST_PROCESSES; i++) {
                procs[i] = new Proc(i);
                order[i] = i;
            }
        }

        void clear(int itsSeed) {
            for (int i = 0; i < MOST_PROCESSES; i++) {
                order[i] = i;
            }
            live = 0;
            made = 0;
            clock = 0;
            steps = 0;
            seed = itsSeed;
            shownCount = 0;
            keyFrom = 0;
            keyCount = 0;
            messageSize = 0;
            meetings = 0;
        }

        /** A new process; null if there are too many. */
        Proc make(int parent) {
            if (live >= MOST_PROCESSES) {
                return null;
            }
            Proc p = procs[order[live]];
            live++;
            p.number = made;
            made++;
            p.state = READY;
            p.line = 0;
            p.fault = NONE;
            p.parent = parent;
            p.pending = 0;
            p.calls = 0;
            p.channel = 0;
            p.heldCount = 0;
            p.timed = false;
            p.keyed = false;
            p.placeCount = 0;
            return p;
        }

        void remove(Proc p) {
            for (int i = 0; i < live; i++) {
                if (order[i] == p.row) {
                    for (int k = i; k + 1 < live; k++) {
                        order[k] = order[k + 1];
                    }
                    live--;
                    order[live] = p.row;
                    return;
                }
            }
        }

        Proc find(int number) {
            for (int i = 0; i < live; i++) {
                if (procs[order[i]].number == number) {
                    return procs[order[i]];
                }
            }
            return null;
        }

        int countOf(int state) {
            int n = 0;
            for (int i = 0; i < live; i++) {
                n += procs[order[i]].state == state ? 1 : 0;
            }
            return n;
        }

        Proc ready(int k) {
            int n = k;
            for (int i = 0; i < live; i++) {
                Proc p = procs[order[i]];
                if (p.state == READY) {
                    if (n == 0) {
                        return p;
                    }
                    n--;
                }
            }
            return null;
        }

        Proc waiting(int state, int channel) {
            for (int i = 0; i < live; i++) {
                Proc p = procs[order[i]];
                if (p.state == state && p.channel == channel) {
                    return p;
                }
            }
            return null;
        }

        /** ALTs that wait with this channel in a GUARD become READY. */
        void rouse(int channel) {
            for (int i = 0; i < live; i++) {
                Proc p = procs[order[i]];
                if (p.state == CHOOSES && p.hasGuard(GUARD_CHANNEL, channel)) {
                    p.state = READY;
                }
            }
        }

        int draw(int n) {
            seed = seed * 1103515245 + 12345;
            return n > 0 ? (seed >>> 16) % n : 0;
        }

        boolean isPast(int time) {
            return clock - time > 0;
        }

        /** Those whose time has come become READY. */
        void wake() {
            for (int i = 0; i < live; i++) {
                Proc p = procs[order[i]];
                if (p.state == SLEEPS && isPast(p.wake) || p.state == CHOOSES && p.timed && hasPastGuard(p)) {
                    p.state = READY;
                }
            }
        }

        private boolean hasPastGuard(Proc p) {
            for (int k = 0; k < p.guards(); k++) {
                if (p.guardKind(k) == GUARD_AFTER && isPast(p.guardValue(k))) {
                    return true;
                }
            }
            return false;
        }

        boolean hasTimed() {
            for (int i = 0; i < live; i++) {
                Proc p = procs[order[i]];
                if (p.state == SLEEPS || p.state == CHOOSES && p.timed) {
                    return true;
                }
            }
            return false;
        }

        boolean hasKeyed() {
            for (int i = 0; i < live; i++) {
                Proc p = procs[order[i]];
                if (p.state == KEYED || p.state == CHOOSES && p.keyed) {
                    return true;
                }
            }
            return false;
        }

        /** The clock jumps to the nearest time at which one is READY; false if none waits for a time. */
        boolean jumpToNearest() {
            if (!hasTimed()) {
                return false;
            }
            long nearest = FARTHEST;
            for (int i = 0; i < live; i++) {
                Proc p = procs[order[i]];
                if (p.state == SLEEPS) {
                    nearest = Math.min(nearest, distance(p.wake));
                } else if (p.state == CHOOSES && p.timed) {
                    nearest = Math.min(nearest, nearestGuard(p));
                }
            }
            clock += (int) nearest;
            wake();
            return true;
        }

        /** How far it is to the first time that is AFTER this one. */
        private long distance(int time) {
            return time + 1 - clock & 0xFFFFFFFFL;
        }

        private long nearestGuard(Proc p) {
            long nearest = FARTHEST;
            for (int k = 0; k < p.guards(); k++) {
                if (p.guardKind(k) == GUARD_AFTER) {
                    nearest = Math.min(nearest, distance(p.guardValue(k)));
                }
            }
            return nearest;
        }

        void show(int b) {
            if (shownCount < MOST_OUTPUT) {
                shown[shownCount] = (byte) b;
                shownCount++;
            }
        }

        int shownAt(int i) {
            return i >= 0 && i < shownCount && i < MOST_OUTPUT ? shown[i] & 255 : NONE;
        }

        boolean addKey(int b) {
            if (keyCount >= MOST_INPUT) {
                return false;
            }
            keys[(keyFrom + keyCount) % MOST_INPUT] = b;
            keyCount++;
            return true;
        }

        int takeKey() {
            if (keyCount == 0) {
                return 0;
            }
            int b = keys[keyFrom];
            keyFrom = (keyFrom + 1) % MOST_INPUT;
            keyCount--;
            return b;
        }

        void takeMessage(Proc writer) {
            messageSize = Math.min(writer.heldCount, message.length);
            for (int i = 0; i < messageSize; i++) {
                message[i] = writer.held[i];
            }
        }

        void keepMeeting(int line, int index, int writer, int reader) {
            int at = meetings % KEPT * FACTS;
            facts[at] = line;
            facts[at + 1] = index;
            facts[at + 2] = writer;
            facts[at + 3] = reader;
            facts[at + 4] = messageSize;
            facts[at + 5] = message[0];
            facts[at + 6] = steps + 1;
            meetings++;
        }

        int fact(int k, int what) {
            if (k < 0 || k >= KEPT || k >= meetings || what < 0 || what >= FACTS) {
                return NONE;
            }
            return facts[(meetings - 1 - k) % KEPT * FACTS + what];
        }
    }

    /** Runs the code. Only one process goes on at a time; its values lie on the stack till its ACT is done. */
    private static final class Machine {
        private static final int MOST_WORDS = 50000000;
        private static final int MOST_CALLS = 60;
        private static final int MOST_WORK = 100;
        private static final int MOST_WITHIN = 20;

        boolean begun;
        private boolean ended;
        private final Coder coder;
        private final Text text;
        private final Heap heap = new Heap();
        private final Hall hall = new Hall();
        private int[] rows = new int[4096];
        private int width;
        private final int[] stack = new int[16000];
        private int top;
        private Proc current;
        /** The other one of a meeting; it goes on when the one that does the STEP has gone its whole way. */
        private Proc partner;
        /** A message has come to a ? CASE that waits, whose places have to be worked out ahead of both ways. */
        private boolean handing;
        private boolean going;
        private boolean mayAct;
        private int doing;
        private int functions;
        private int called;
        private final int[] refs = new int[64];
        private final int[] sizes = new int[64];
        private final int[] scratch = new int[8 * MOST_ELEMENTS + 8];

        Machine(Coder coder, Text text) {
            this.coder = coder;
            this.text = text;
            this.current = hall.procs[0];
        }

        void start(int seed) {
            heap.clear();
            hall.clear(seed);
            width = 2 * coder.slots;
            int need = width * MOST_PROCESSES;
            if (rows.length < need) {
                rows = new int[Math.max(need, 2 * rows.length)];
            }
            for (int i = 0; i < width; i++) {
                rows[i] = 0;
            }
            begun = true;
            ended = false;
            called = 0;
            handing = false;
            Proc p = hall.make(NONE);
            if (p != null) {
                p.pc = 0;
                current = p;
                keep(0, Hall.SCREEN_PLACE, 1);
                keep(1, Hall.KEYBOARD_PLACE, 1);
                advance(p, false);
            }
        }

        /** One STEP; false if there is none to be made. */
        boolean step() {
            if (!begun || ended) {
                return false;
            }
            int ready = hall.countOf(READY);
            if (ready == 0) {
                if (!hall.jumpToNearest()) {
                    return false;
                }
                ready = hall.countOf(READY);
            }
            Proc p = hall.ready(hall.draw(ready));
            if (p == null) {
                return false;
            }
            called = 0;
            advance(p, coder.at(p.pc) == DO_ACT);
            hall.steps++;
            hall.clock++;
            hall.wake();
            return true;
        }

        boolean press(int b) {
            if (!begun || !hall.addKey(b)) {
                return false;
            }
            Proc p = ended ? null : hall.waiting(KEYED, Hall.KEYBOARD_PLACE);
            if (p == null) {
                hall.rouse(Hall.KEYBOARD_PLACE);
                return true;
            }
            heap.put(p.places[0], hall.takeKey());
            called = 0;
            advance(p, false);
            return true;
        }

        /** A process goes on, then those that its PAR has made, then the one that it met. */
        private void advance(Proc p, boolean act) {
            int newest = hall.made;
            partner = null;
            goOn(p, act);
            if (handing && partner != null) {
                settle(partner);
                pickVariant();
                if (partner.state == READY) {
                    goOn(partner, false);
                }
                handing = false;
                goOn(p, false);
            }
            for (int i = newest; i < hall.made; i++) {
                Proc child = hall.find(i);
                if (child != null) {
                    goOn(child, false);
                }
            }
            if (partner != null && partner.state == READY) {
                goOn(partner, false);
            }
        }

        private void settle(Proc p) {
            current = p;
            p.state = READY;
            top = 0;
            functions = 0;
            doing = p.line;
            mayAct = false;
            going = true;
        }

        private void goOn(Proc p, boolean act) {
            settle(p);
            mayAct = act;
            for (int i = 0; going && i < MOST_WORDS; i++) {
                int op = word();
                if (op <= DO_END) {
                    control(op);
                } else if (op <= DO_ASSIGN) {
                    memory(op);
                } else if (op <= DO_PAR_EACH) {
                    meet(op);
                } else if (op <= DO_CHANNEL_OF) {
                    fetch(op);
                } else {
                    work(op);
                }
            }
        }

        private int word() {
            int w = coder.at(current.pc);
            current.pc++;
            return w;
        }

        private void push(int v) {
            if (top < stack.length) {
                stack[top] = v;
                top++;
            }
        }

        private int pop() {
            if (top <= 0) {
                return 0;
            }
            top--;
            return stack[top];
        }

        private int slotAt(int slot) {
            int i = current.row * width + 2 * slot;
            return slot >= 0 && 2 * slot + 1 < width && i + 1 < rows.length ? i : 0;
        }

        private void keep(int slot, int v, int w) {
            int i = slotAt(slot);
            rows[i] = v;
            rows[i + 1] = w;
        }

        private int kept(int slot) {
            return rows[slotAt(slot)];
        }

        private int keptSize(int slot) {
            return rows[slotAt(slot) + 1];
        }

        private void fault(int number) {
            current.state = STOPPED;
            current.fault = number;
            current.line = doing;
            going = false;
        }

        private void await(int state, int channel) {
            current.state = state;
            current.channel = channel;
            going = false;
        }

        private void control(int op) {
            switch (op) {
                case DO_ACT:
                    act(word());
                    break;
                case DO_LINE:
                    int line = word();
                    doing = functions == 0 ? line : doing;
                    break;
                case DO_JUMP:
                    current.pc = word();
                    break;
                case DO_UNLESS:
                    int target = word();
                    current.pc = pop() == 0 ? target : current.pc;
                    break;
                case DO_SWITCH:
                    choose();
                    break;
                case DO_FAULT:
                    fault(word());
                    break;
                case DO_SEQ_FIRST:
                case DO_SEQ_TEST:
                case DO_SEQ_NEXT:
                    repeat(op, word());
                    break;
                case DO_CALL:
                    call(word(), word());
                    break;
                case DO_RETURN:
                    current.calls--;
                    current.pc = kept(word());
                    break;
                case DO_FUNCTION:
                    callFunction(word(), word());
                    break;
                case DO_RESULT:
                    functions--;
                    current.pc = kept(word());
                    break;
                case DO_PASS:
                    break;
                default:
                    end();
                    break;
            }
        }

        private void act(int line) {
            if (functions > 0) {
                called++;
                if (called > MOST_WORK) {
                    fault(11);
                }
                return;
            }
            current.line = line;
            if (mayAct) {
                mayAct = false;
                doing = line;
            } else {
                current.pc -= 2;
                going = false;
            }
        }

        private void choose() {
            int n = word();
            int target = word();
            int v = pop();
            int table = current.pc;
            for (int i = 0; i < n; i++) {
                if (coder.at(table + 2 * i) == v) {
                    target = coder.at(table + 2 * i + 1);
                    break;
                }
            }
            current.pc = target;
        }

        /** A REPLICATOR's slot has its value, and how many times are to come. */
        private void repeat(int op, int slot) {
            if (op == DO_SEQ_FIRST) {
                int n = pop();
                keep(slot, pop(), n);
                if (n < 0) {
                    fault(7);
                }
            } else if (op == DO_SEQ_TEST) {
                int exit = word();
                current.pc = keptSize(slot) == 0 ? exit : current.pc;
            } else {
                keep(slot, kept(slot) + 1, keptSize(slot) - 1);
            }
        }

        private void call(int entry, int slot) {
            if (current.calls >= MOST_CALLS) {
                fault(10);
                return;
            }
            current.calls++;
            keep(slot, current.pc, 0);
            current.pc = entry;
        }

        private void callFunction(int entry, int slot) {
            called++;
            if (called > MOST_WORK || functions >= MOST_WITHIN) {
                fault(11);
                return;
            }
            functions++;
            keep(slot, current.pc, 0);
            current.pc = entry;
        }

        /** The end of a process; with the last branch the process of the PAR goes on. */
        private void end() {
            Proc p = current;
            hall.remove(p);
            going = false;
            if (p.parent < 0 || p.parent >= MOST_PROCESSES) {
                ended = true;
                heap.taken = 0;
                return;
            }
            Proc parent = hall.procs[p.parent];
            parent.pending--;
            if (parent.pending == 0) {
                settle(parent);
            }
        }

        private void memory(int op) {
            switch (op) {
                case DO_TAKE_ROOM:
                    takeRoom(word(), word(), word(), word());
                    break;
                case DO_COPY:
                    copyArray();
                    break;
                case DO_KEEP_ONE:
                    keep(word(), pop(), 0);
                    break;
                case DO_KEEP_TWO:
                    int size = pop();
                    keep(word(), pop(), size);
                    break;
                case DO_FREE:
                    heap.free(kept(word()));
                    break;
                case DO_CHECK:
                    if (word() != (top > 0 ? stack[top - 1] : 0)) {
                        fault(9);
                    }
                    break;
                default:
                    assign(word(), word());
                    break;
            }
        }

        private void takeRoom(int slot, int n, int each, int line) {
            int place = heap.take(n * each, line, each);
            if (place == Heap.NO_ROOM) {
                fault(10);
                return;
            }
            for (int i = 0; i < n; i++) {
                keep(slot + i, place + i * each, each);
            }
        }

        private void copyArray() {
            int size = pop();
            int ref = pop();
            if (ref < 0) {
                top = ~ref;
            }
            int place = heap.take(size, 0, size);
            if (place == Heap.NO_ROOM) {
                fault(10);
                return;
            }
            for (int i = 0; i < size; i++) {
                heap.put(place + i, ref >= 0 ? heap.get(ref + i) : ~ref + i < stack.length ? stack[~ref + i] : 0);
            }
            push(place);
            push(size);
        }

        /**
         * The last n values of the stack, of which some are arrays, come into a row; answers how many cells. An array is
         * told by its place, or (below 0) by where it lies on the stack.
         */
        private int gather(int n, int arrays, int[] into) {
            for (int i = Math.min(n, refs.length) - 1; i >= 0; i--) {
                if ((arrays >> i & 1) != 0) {
                    sizes[i] = pop();
                    refs[i] = pop();
                    top = refs[i] < 0 ? ~refs[i] : top;
                } else {
                    pop();
                    sizes[i] = 1;
                    refs[i] = ~top;
                }
            }
            int at = 0;
            for (int i = 0; i < n && i < refs.length; i++) {
                for (int k = 0; k < sizes[i] && at < into.length; k++) {
                    int ref = refs[i];
                    into[at] = ref >= 0 ? heap.get(ref + k) : ~ref + k < stack.length ? stack[~ref + k] : 0;
                    at++;
                }
            }
            return at;
        }

        private void assign(int n, int arrays) {
            int places = Math.max(0, top - 2 * n);
            top = places;
            gather(n, arrays, scratch);
            int at = 0;
            for (int i = 0; i < n && i < sizes.length && places + 2 * i + 1 < stack.length; i++) {
                if (stack[places + 2 * i + 1] != sizes[i]) {
                    fault(9);
                    return;
                }
                for (int k = 0; k < sizes[i] && at < scratch.length; k++) {
                    heap.put(stack[places + 2 * i] + k, scratch[at]);
                    at++;
                }
            }
        }

        private void meet(int op) {
            switch (op) {
                case DO_OUTPUT:
                    write(word(), word());
                    break;
                case DO_INPUT:
                    readMessage(word());
                    break;
                case DO_INPUT_CASE:
                    readVariant();
                    break;
                case DO_TAKE:
                    setPlaces(word());
                    deliver(current, 1);
                    going = !handing;
                    break;
                case DO_CLOCK:
                    pop();
                    heap.put(pop(), hall.clock);
                    break;
                case DO_AFTER:
                    current.wake = pop();
                    if (!hall.isPast(current.wake)) {
                        await(SLEEPS, 0);
                    }
                    break;
                case DO_GUARD:
                    int kind = word();
                    int value = kind == GUARD_CHANNEL || kind == GUARD_AFTER ? pop() : 0;
                    push(kind);
                    push(value);
                    break;
                case DO_GUARDS:
                    int n = word();
                    top = Math.max(0, top - 2 * n);
                    current.hold(stack, top, 2 * n);
                    break;
                case DO_ALT:
                    alternate();
                    break;
                case DO_TAKEN:
                    push(current.channel);
                    break;
                default:
                    fork(op);
                    break;
            }
        }

        private void write(int n, int arrays) {
            hall.messageSize = gather(n, arrays, hall.message);
            int channel = pop();
            if (channel == Hall.SCREEN_PLACE) {
                hall.show(hall.message[0]);
                return;
            }
            Proc reader = channel == Hall.KEYBOARD_PLACE ? null : hall.waiting(READS, channel);
            if (reader == null) {
                current.hold(hall.message, 0, hall.messageSize);
                await(WRITES, channel);
                hall.rouse(channel == Hall.KEYBOARD_PLACE ? NONE : channel);
                return;
            }
            join(channel, current, reader, reader);
            if (reader.placeCount < 0) {
                handing = true;
                going = false;
            } else {
                deliver(reader, 0);
            }
        }

        private void join(int channel, Proc writer, Proc reader, Proc other) {
            hall.keepMeeting(heap.lineOf(channel), heap.indexOf(channel), writer.number, reader.number);
            partner = other;
            other.state = READY;
        }

        /** The n places on the stack are those that a message comes to. */
        private void setPlaces(int n) {
            top = Math.max(0, top - 2 * n);
            current.placeCount = n;
            for (int i = 0; i < 2 * n && i < current.places.length && top + i < stack.length; i++) {
                current.places[i] = stack[top + i];
            }
        }

        private void deliver(Proc reader, int from) {
            int at = from;
            for (int i = 0; i < reader.placeCount && 2 * i + 1 < reader.places.length; i++) {
                int size = reader.places[2 * i + 1];
                for (int k = 0; k < size && at < hall.messageSize; k++) {
                    heap.put(reader.places[2 * i] + k, hall.message[at]);
                    at++;
                }
            }
        }

        private void readMessage(int n) {
            setPlaces(n);
            int channel = pop();
            if (channel == Hall.KEYBOARD_PLACE) {
                if (hall.keyCount > 0) {
                    heap.put(current.places[0], hall.takeKey());
                } else {
                    await(KEYED, channel);
                }
                return;
            }
            Proc writer = hall.waiting(WRITES, channel);
            if (writer == null) {
                await(READS, channel);
                return;
            }
            hall.takeMessage(writer);
            join(channel, writer, current, writer);
            deliver(current, 0);
        }

        private void readVariant() {
            int channel = pop();
            Proc writer = hall.waiting(WRITES, channel);
            if (writer == null) {
                current.placeCount = NONE;
                await(READS, channel);
                return;
            }
            hall.takeMessage(writer);
            join(channel, writer, current, writer);
            pickVariant();
        }

        /** The present process is at the table of its VARIANTs, and the message is there. */
        private void pickVariant() {
            int n = coder.at(current.pc);
            int table = current.pc + 1;
            for (int i = 0; i < n; i++) {
                if (coder.at(table + 2 * i) == hall.message[0]) {
                    current.pc = coder.at(table + 2 * i + 1);
                    return;
                }
            }
            fault(5);
        }

        private boolean isReady(int kind, int value) {
            switch (kind) {
                case GUARD_SKIP:
                case GUARD_CLOCK:
                    return true;
                case GUARD_AFTER:
                    return hall.isPast(value);
                case GUARD_CHANNEL:
                    return value == Hall.KEYBOARD_PLACE ? hall.keyCount > 0 : hall.waiting(WRITES, value) != null;
                default:
                    return false;
            }
        }

        private void alternate() {
            int here = current.pc - 1;
            int pri = word();
            int slot = word();
            int base = word();
            Proc p = current;
            int ready = 0;
            for (int k = 0; k < p.guards(); k++) {
                ready += isReady(p.guardKind(k), p.guardValue(k)) ? 1 : 0;
            }
            if (ready == 0) {
                p.pc = here;
                waitForGuard(p);
                return;
            }
            int rank = pri != 0 ? 0 : hall.draw(ready);
            for (int k = 0; k < p.guards(); k++) {
                if (isReady(p.guardKind(k), p.guardValue(k))) {
                    if (rank == 0) {
                        p.channel = p.guardValue(k);
                        if (slot >= 0) {
                            keep(slot, base + k, 0);
                        }
                        p.pc = coder.at(slot >= 0 ? p.pc : p.pc + k);
                        return;
                    }
                    rank--;
                }
            }
        }

        private void waitForGuard(Proc p) {
            boolean alive = false;
            p.timed = false;
            p.keyed = false;
            for (int k = 0; k < p.guards(); k++) {
                int kind = p.guardKind(k);
                alive = alive || kind != GUARD_OFF;
                p.timed = p.timed || kind == GUARD_AFTER;
                p.keyed = p.keyed || kind == GUARD_CHANNEL && p.guardValue(k) == Hall.KEYBOARD_PLACE;
            }
            if (alive) {
                await(CHOOSES, 0);
            } else {
                fault(0);
            }
        }

        private void fork(int op) {
            boolean isEach = op == DO_PAR_EACH;
            int slot = isEach ? word() : 0;
            int base = isEach ? word() : 0;
            int n = word();
            int behind = word();
            int table = current.pc;
            Proc parent = current;
            if (hall.live + n > MOST_PROCESSES) {
                fault(10);
                return;
            }
            parent.pc = behind;
            if (n == 0) {
                return;
            }
            parent.pending = n;
            await(JOINS, 0);
            for (int i = 0; i < n; i++) {
                Proc child = hall.make(parent.row);
                if (child != null) {
                    branchOff(parent, child, coder.at(isEach ? table : table + i));
                    if (isEach) {
                        current = child;
                        keep(slot, base + i, 0);
                    }
                }
            }
            current = parent;
        }

        private void branchOff(Proc parent, Proc child, int entry) {
            child.pc = entry;
            child.line = parent.line;
            int from = parent.row * width;
            int to = child.row * width;
            if (from + width <= rows.length && to + width <= rows.length) {
                System.arraycopy(rows, from, rows, to, width);
            }
        }

        /** Values and places of names. */
        private void fetch(int op) {
            int v = word();
            switch (op) {
                case DO_PUSH:
                    push(v);
                    break;
                case DO_VALUE:
                case DO_CHANNEL:
                    push(kept(v));
                    break;
                case DO_LOAD:
                    push(heap.get(kept(v)));
                    break;
                case DO_SIZE:
                    push(keptSize(v));
                    break;
                case DO_WHOLE:
                    push(kept(v));
                    push(keptSize(v));
                    break;
                default:
                    fetchElement(op, v, pop());
                    break;
            }
        }

        private void fetchElement(int op, int slot, int index) {
            if (index < 0 || index >= keptSize(slot)) {
                fault(3);
                return;
            }
            int place = kept(slot) + index;
            push(op == DO_ELEMENT ? heap.get(place) : place);
            if (op == DO_PLACE) {
                push(1);
            }
        }

        private void work(int op) {
            switch (op) {
                case DO_STRING:
                    pushString(word(), word());
                    break;
                case DO_TABLE:
                    int n = word();
                    push(~Math.max(0, top - n));
                    push(n);
                    break;
                case DO_ONE:
                    finish(Types.ofOne(word(), pop()));
                    break;
                case DO_TWO:
                    int y = pop();
                    finish(Types.ofTwo(word(), pop(), y));
                    break;
                case DO_MANY:
                    pushChain(word(), word());
                    break;
                default:
                    finish(Types.converted(word(), pop()));
                    break;
            }
        }

        private void finish(long r) {
            if (r >> 32 != 0) {
                fault((int) (r >> 32));
            } else {
                push((int) r);
            }
        }

        private void pushString(int from, int n) {
            int ref = ~top;
            for (int i = 0; i < n; i++) {
                push(from + i < text.signs.length ? text.signs[from + i] : 0);
            }
            push(ref);
            push(n);
        }

        private void pushChain(int op, int n) {
            int v = op == W_AND ? 1 : 0;
            for (int i = 0; i < n; i++) {
                int x = pop();
                v = op == W_AND ? v & x : v | x;
            }
            push(v);
        }

        private int how() {
            if (!begun) {
                return 0;
            }
            if (ended) {
                return ENDED;
            }
            if (hall.countOf(READY) > 0 || hall.hasTimed()) {
                return GOES_ON;
            }
            return hall.hasKeyed() ? WAITS_FOR_KEY : STANDS;
        }

        int tally(int what) {
            if (!begun) {
                return 0;
            }
            switch (what) {
                case 4:
                    return how();
                case 5:
                    return hall.steps;
                case 6:
                    return hall.live;
                case 7:
                    return hall.made;
                case 8:
                    return hall.meetings;
                case 9:
                    return hall.clock;
                case 10:
                    return hall.shownCount;
                case 11:
                    return hall.keyCount;
                case 12:
                    return heap.taken;
                default:
                    return hall.countOf(STOPPED);
            }
        }

        int shown(int i) {
            return begun ? hall.shownAt(i) : NONE;
        }

        int tellMeeting(int k, int what) {
            return begun ? hall.fact(k, what) : NONE;
        }

        int tellProcess(int number, int what) {
            Proc p = begun ? hall.find(number) : null;
            if (p == null) {
                return NONE;
            }
            boolean meets = p.state == WRITES || p.state == READS;
            switch (what) {
                case 0:
                    return p.state;
                case 1:
                    return p.line;
                case 2:
                    return p.parent < 0 || p.parent >= MOST_PROCESSES ? NONE : hall.procs[p.parent].number;
                case 3:
                    return meets ? heap.lineOf(p.channel) : 0;
                case 4:
                    return meets ? heap.indexOf(p.channel) : 0;
                case 5:
                    return p.fault;
                default:
                    return NONE;
            }
        }

        int tellCell(int i) {
            if (!begun || i < 0) {
                return 0;
            }
            current = hall.procs[0];
            int left = i;
            for (int t = 0; t < coder.tops; t++) {
                if (left < coder.topCells[t]) {
                    int place = kept(coder.topSlots[t]);
                    return place == 0 ? 0 : heap.get(place + left);
                }
                left -= coder.topCells[t];
            }
            return 0;
        }
    }
}
