/** The boundary cases of the term TEXT and of its block, sentence by sentence: tokens, the grammar, faults 1 to 3. */
public final class TextBoundsTest {
    private static final String THIRTY = "abcdefghijklmnopqrstuvwxyz0123";

    public static void main(String[] args) {
        linesAndNotes();
        longestTokens();
        names();
        words();
        numbers();
        numbersOfSixteen();
        characters();
        strings();
        strangeBytes();
        oddBlanks();
        emptyGroups();
        notEmpty();
        justOne();
        elseIsLast();
        elements();
        sixteenParts();
        eightFormals();
        guards();
        operands();
        wholeLines();
        theEnd();
        firstFault();
        depthOfTwenty();
        depthOfVariants();
        twentyOpen();
        firstTokens();
        kindsAndTypes();
        depthsOfFunctions();
        Trial.finish("TextBoundsTest");
    }

    private static void reads(int fault, int line, String... lines) {
        Trial.reads(fault, line, lines);
    }

    private static void read(int fault, int line, String text) {
        Trial.due("read of\n" + text, Trial.house(text).read(), fault == 0 ? 0 : fault + 16L * line);
    }

    /** An E of TYPE INT in line 2. */
    private static void value(int fault, String e) {
        reads(fault, 2, "INT x:", "x := " + e);
    }

    /** "LINES are parted by bytes 10 and counted from 1 on .. Lines without tokens are passed over." */
    private static void linesAndNotes() {
        read(2, 1, "x");
        read(2, 4, "\n\n\nx");
        read(2, 4, "\n   \n--\nx\n");
        read(0, 0, "\n\n   \n -- odd blanks ahead of a note\nSKIP\n     \n\n");
        read(1, 1, "SKIP\r\n");
        // "A note begins with -- (not in a string or character) and goes to the line's end."
        read(0, 0, "SKIP--\u0000\u0001\t\"'@ \u00ff\n");
        read(0, 0, "--\nSKIP--");
        read(2, 2, "--\nSKIP-");
        read(2, 2, "SEQ\n  SKIP - -\n");
        read(0, 0, "SEQ\n  -- a\n  SKIP ---- b\n--  STOP @\n  SKIP");
        reads(0, 0, "VAL [] BYTE s IS \"--\":", "VAL BYTE b IS '-': -- a note", "SKIP");
        reads(1, 1, "VAL [] BYTE s IS \"a -- b:", "SKIP");
    }

    /** "TOKENS, each as long as can be; between them blanks." */
    private static void longestTokens() {
        MeetingHouse house = Trial.house("INT x,y:\nBOOL b:\nSEQ\n  x:=1+2\n  b:=x<=y\n  b:=x<>y\n  x:=x<<1\n  x:=x><y\n");
        Trial.due("read()", house.read(), 0);
        Trial.due("count(0)", house.count(0), 5 + 3 + 1 + 5 * 5);
        value(2, "x <>= x");
        value(2, "x <<< x");
        value(2, "x < = x");
        value(2, "x / \\ x");
        value(0, "x /\\ x");
        value(0, "x \\/ x");
        value(0, "x\\x");
        reads(2, 2, "INT x:", "x : = 1");
        reads(2, 2, "INT x:", "x :=: 1");
        reads(0, 0, "INT   x  :", "x    :=    1    ");
        reads(2, 1, "INTx:", "SKIP");
        reads(2, 1, "SKIPSKIP");
        reads(2, 1, "SKIP SKIP");
    }

    /** "NAMES: a letter, then letters, digits, . ; 16 at most." */
    private static void names() {
        reads(0, 0, "INT " + THIRTY.substring(0, 16) + ":", "SKIP");
        reads(1, 1, "INT " + THIRTY.substring(0, 17) + ":", "SKIP");
        reads(1, 1, "INT " + THIRTY + THIRTY + ":", "SKIP");
        reads(0, 0, "INT Z............:", "INT z9:", "INT A.a.0:", "SKIP");
        reads(1, 1, "INT 9z:", "SKIP");
        reads(1, 1, "INT .z:", "SKIP");
        reads(1, 1, "INT a_b:", "SKIP");
        // Sixteen signs tell names apart, the last one too, and so do capitals.
        reads(5, 2, "INT abcdefghijklmno1:", "abcdefghijklmno2 := 1");
        reads(5, 2, "INT ab:", "aB := 1");
        reads(5, 2, "INT ab:", "a := 1");
    }

    /** "WORDS of the language": none of them is a NAME, and all else is one. */
    private static void words() {
        String all = "AFTER ALT AND BOOL BYTE CASE CHAN ELSE FALSE FOR FUNCTION IF INT IS MINUS MOSTNEG MOSTPOS NOT OF OR PAR"
                + " PLUS PRI PROC PROTOCOL RESULT SEQ SIZE SKIP STOP TIMER TIMES TRUE VAL VALOF WHILE";
        for (String word : all.split(" ")) {
            reads(2, 1, "INT " + word + ":", "SKIP");
            reads(0, 0, "INT " + word + ".:", word + ". := 1");
            reads(0, 0, "INT " + word.toLowerCase() + ":", word.toLowerCase() + " := 1");
        }
        reads(0, 0, "INT REAL, MOD, BITAND, INLINE, PLACE:", "PLACE := 1");
    }

    /** "NUMBERS: 1 to 10 digits, 2147483647 at most .. No letter, digit or . stands right behind these." */
    private static void numbers() {
        value(0, "0");
        value(0, "2147483647");
        value(1, "2147483648");
        value(1, "9999999999");
        value(0, "0000000000");
        value(1, "00000000000");
        value(1, "12345678901");
        value(1, "1x");
        value(1, "1.");
        value(1, "1F");
        value(1, "1FOR");
        value(0, "1+1");
        value(0, "(1)");
    }

    /** "# and 1 to 8 digits of sixteen (0 .. 9 A .. F; 32 bits)." */
    private static void numbersOfSixteen() {
        value(0, "#F");
        value(0, "#00000000");
        value(0, "#89ABCDEF");
        value(1, "#000000000");
        value(1, "#");
        value(1, "# 1");
        value(1, "#f");
        value(1, "#1G");
        value(1, "#1.");
        value(1, "##1");
        MeetingHouse house = Trial.ran(1, "INT a, b, c:", "a, b, c := #80000000, #7FFFFFFF, #0F");
        Trial.due("#80000000", house.cell(0), Integer.MIN_VALUE);
        Trial.due("#7FFFFFFF", house.cell(1), Integer.MAX_VALUE);
        Trial.due("#0F", house.cell(2), 15);
    }

    /** "CHARACTERS: ' one sign '". */
    private static void characters() {
        for (int b = 0; b < 256; b++) {
            if (b != 10) {
                boolean isSign = b >= 32 && b <= 126 && b != '\'' && b != '"' && b != '*';
                value(isSign ? 0 : 1, "INT '" + (char) b + "'");
                boolean isEscape = "nts'\"*".indexOf((char) b) >= 0;
                value(isEscape ? 0 : 1, "INT '*" + (char) b + "'");
            }
        }
        value(1, "INT ''");
        value(1, "INT '");
        value(1, "INT 'a");
        value(1, "INT 'ab'");
        value(1, "INT '*'");
        value(1, "INT '*nn'");
        value(0, "INT'a'");
        reads(1, 2, "INT x:", "x := INT '", "'");
        MeetingHouse house = Trial.ran(1, "[6] BYTE b:", "b := ['*n', '*t', '*s', '*'', '*\"', '**']");
        int[] due = {10, 9, 32, 39, 34, 42};
        for (int i = 0; i < due.length; i++) {
            Trial.due("sign " + i, house.cell(i), due[i]);
        }
    }

    /** "STRINGS: " 1 to 60 signs "". */
    private static void strings() {
        value(1, "SIZE \"\"");
        value(0, "SIZE \"a\"");
        value(0, "SIZE \"" + THIRTY + THIRTY + "\"");
        value(1, "SIZE \"" + THIRTY + THIRTY + "a\"");
        // A sign is one, whether it has one byte or two.
        value(0, "SIZE \"" + "**".repeat(60) + "\"");
        value(1, "SIZE \"" + "**".repeat(61) + "\"");
        value(1, "SIZE \"" + THIRTY + THIRTY);
        value(1, "SIZE \"*\"");
        value(1, "SIZE \"*a\"");
        value(1, "SIZE \"it's\"");
        value(0, "SIZE \"it*'s\"");
        reads(1, 2, "INT x:", "x := SIZE \"a", "b\"");
        Trial.due("60 signs", Trial.ran(1, "INT x:", "x := SIZE \"" + "*n".repeat(60) + "\"").cell(0), 60);
    }

    /** Fault 1: "no token begins so". */
    private static void strangeBytes() {
        String begin = "()[],;:?!&=<>+-*/\\~'\"# \n";
        for (int b = 0; b < 256; b++) {
            char c = (char) b;
            boolean isName = c >= 'a' && c <= 'z' || c >= 'A' && c <= 'Z' || c >= '0' && c <= '9';
            if (!isName && begin.indexOf(c) < 0) {
                read(1, 2, "SEQ\n  " + c + "\n");
            }
        }
    }

    /** "a line that should stand at another depth, at its first token; one with an odd number of blanks likewise". */
    private static void oddBlanks() {
        reads(2, 1, " SKIP");
        reads(2, 1, "  SKIP");
        reads(2, 2, "SEQ", "   SKIP");
        reads(2, 3, "SEQ", "  SKIP", "   SKIP");
        reads(2, 3, "SEQ", "  SKIP", " SKIP");
        reads(2, 2, "INT x:", " SKIP");
        reads(2, 2, "INT x:", "  SKIP");
        reads(2, 3, "PROC p()", "  SKIP", "  :", "SKIP");
        reads(2, 3, "PROC p()", "  SKIP", " :", "SKIP");
        reads(2, 3, "IF", "  TRUE", "   SKIP");
        reads(2, 3, "IF", "  TRUE", "      SKIP");
        // A tab is no blank.
        reads(1, 2, "SEQ", "\tSKIP");
        reads(1, 2, "SEQ", "  \tSKIP");
    }

    /** "any PROCESSES", "any of": none, too. */
    private static void emptyGroups() {
        for (String head : new String[] {"SEQ", "PAR", "IF", "ALT", "PRI ALT", "CASE 1"}) {
            reads(0, 0, head);
            reads(0, 0, "SEQ", "  " + head, "  SKIP");
        }
        reads(0, 0, "PROC p()", "  SKIP", ":", "INT FUNCTION f() IS 1:", "INT x:", "SEQ", "  p()", "  x := f()");
    }

    /** What has to have at least one. */
    private static void notEmpty() {
        reads(2, 2, "WHILE TRUE");
        reads(2, 4, "WHILE TRUE", "", "-- nothing");
        reads(2, 2, "CHAN OF INT c:", "c ?");
        reads(2, 2, "CHAN OF INT c:", "c !");
        reads(2, 3, "CHAN OF INT c:", "c ? CASE");
        reads(2, 3, "CHAN OF INT c:", "c ? CASE", "  1");
        reads(2, 4, "CHAN OF INT c:", "c ? CASE", "  a");
        reads(2, 3, "PROTOCOL p", "  CASE", ":", "SKIP");
        reads(2, 2, "PROTOCOL p", ":", "SKIP");
        reads(2, 1, "PROTOCOL p IS:", "SKIP");
        reads(2, 1, "PROTOCOL p IS INT;:", "SKIP");
        reads(2, 3, "PROTOCOL p", "  CASE", "    a;", ":", "SKIP");
        reads(2, 1, "INT:", "SKIP");
        reads(2, 1, "INT a,:", "SKIP");
        reads(2, 2, "PROC p()", ":", "SKIP");
        reads(2, 3, "IF", "  TRUE");
        reads(2, 3, "CASE 1", "  1");
        reads(2, 3, "ALT", "  SKIP");
        reads(2, 1, "CASE");
        reads(2, 2, "CASE 1", "  1,", "    SKIP");
        reads(2, 2, "INT FUNCTION f()", ":", "SKIP");
        reads(2, 3, "INT FUNCTION f()", "  VALOF", ":", "SKIP");
        reads(2, 4, "INT FUNCTION f()", "  VALOF", "    SKIP", ":", "SKIP");
        reads(2, 4, "INT FUNCTION f()", "  VALOF", "    SKIP", "    RESULT", ":", "SKIP");
        value(2, "[]");
        value(2, "[1,]");
        value(2, "()");
        reads(2, 2, "[2] INT v:", "v[] := 1");
    }

    /** "(with a REPLICATOR just one)". */
    private static void justOne() {
        for (String head : new String[] {"SEQ", "PAR"}) {
            reads(2, 2, head + " i = 0 FOR 2");
            reads(0, 0, head + " i = 0 FOR 2", "  SKIP");
            reads(2, 3, head + " i = 0 FOR 2", "  SKIP", "  SKIP");
            reads(2, 1, head + " i", "  SKIP");
            reads(2, 1, head + " i = 0 FOR", "  SKIP");
            reads(2, 1, head + " i FOR 2", "  SKIP");
            reads(2, 1, head + " = 0 FOR 2", "  SKIP");
        }
        for (String head : new String[] {"ALT", "PRI ALT"}) {
            reads(2, 2, head + " i = 0 FOR 2");
            reads(0, 0, head + " i = 0 FOR 2", "  SKIP", "    SKIP");
            reads(2, 4, head + " i = 0 FOR 2", "  SKIP", "    SKIP", "  SKIP", "    SKIP");
        }
        reads(2, 1, "IF i = 0 FOR 2", "  TRUE", "    SKIP");
        reads(2, 1, "PRI PAR", "  SKIP");
        reads(2, 1, "PRI");
    }

    /** "or, last, ELSE". */
    private static void elseIsLast() {
        reads(0, 0, "CASE 1", "  ELSE", "    SKIP");
        reads(2, 4, "CASE 1", "  ELSE", "    SKIP", "  ELSE", "    SKIP");
        reads(2, 4, "CASE 1", "  ELSE", "    SKIP", "  1", "    SKIP");
        reads(2, 2, "CASE 1", "  1, ELSE", "    SKIP");
        reads(2, 2, "CASE 1", "  ELSE, 1", "    SKIP");
        reads(2, 2, "IF", "  ELSE", "    SKIP");
    }

    /** "(8 ELEMENTs at most ahead of := , a ninth can't stand there)". */
    private static void elements() {
        String eight = "a, a, a, a, a, a, a, a";
        String ones = "1, 1, 1, 1, 1, 1, 1, 1";
        reads(0, 0, "INT a:", eight + " := " + ones);
        reads(2, 2, "INT a:", eight + ", a := " + ones + ", 1");
        reads(2, 2, "INT a:", eight + ", 3 := " + ones + ", 1");
        // Behind := there is no such bound: 8 is a fault of the second round.
        reads(8, 2, "INT a:", eight + " := " + ones + ", 1");
        reads(8, 2, "INT a:", "a := " + ones + ", " + ones + ", " + ones);
        // The first fault is at the ninth, ahead of what the second round would find, and of later lines.
        reads(2, 3, "INT a:", "SEQ", "  " + eight + ", a := TRUE", "  @");
    }

    /** "(16 PARTs, OUTs behind one !, ELEMENTs behind one ? or in one VARIANT at most: a 17th can't stand there.)" */
    private static void sixteenParts() {
        String parts = "INT" + "; INT".repeat(15);
        String names = "a" + "; a".repeat(15);
        reads(0, 0, "PROTOCOL p IS " + parts + ":", "SKIP");
        reads(2, 1, "PROTOCOL p IS " + parts + "; INT:", "SKIP");
        reads(0, 0, "PROTOCOL p", "  CASE", "    t; " + parts, ":", "SKIP");
        reads(2, 3, "PROTOCOL p", "  CASE", "    t; " + parts + "; INT", ":", "SKIP");
        String[] plain = {"PROTOCOL p IS " + parts + ":", "CHAN OF p c:", "INT a:", ""};
        plain[3] = "c ! " + names;
        reads(0, 0, plain);
        plain[3] = "c ! " + names + "; a";
        reads(2, 4, plain);
        plain[3] = "c ? " + names;
        reads(0, 0, plain);
        plain[3] = "c ? " + names + "; a";
        reads(2, 4, plain);
        reads(0, 0, plain[0], plain[1], plain[2], "ALT", "  c ? " + names, "    SKIP");
        reads(2, 5, plain[0], plain[1], plain[2], "ALT", "  c ? " + names + "; a", "    SKIP");
        String[] tagged = {"PROTOCOL p", "  CASE", "    t; " + parts, ":", "CHAN OF p c:", "INT a:"};
        reads(0, 0, tagged[0], tagged[1], tagged[2], tagged[3], tagged[4], tagged[5], "c ? CASE", "  t; " + names,
                "    SKIP");
        reads(2, 8, tagged[0], tagged[1], tagged[2], tagged[3], tagged[4], tagged[5], "c ? CASE",
                "  t; " + names + "; a", "    SKIP");
        // The tag is one of sixteen OUTs: with it, sixteen PARTs are too many to be written.
        reads(2, 7, tagged[0], tagged[1], tagged[2], tagged[3], tagged[4], tagged[5], "c ! t; " + names);
        reads(0, 0, "PROTOCOL p", "  CASE", "    t" + "; INT".repeat(15), ":", "CHAN OF p c:", "INT a:",
                "c ! t" + "; a".repeat(15));
    }

    /** "8 FORMALs at most (a ninth can't stand there)", "or NAME (like the one ahead, which there has to be)". */
    private static void eightFormals() {
        reads(0, 0, "PROC p(INT a, b, c, d, e, f, g, h)", "  SKIP", ":", "SKIP");
        reads(2, 1, "PROC p(INT a, b, c, d, e, f, g, h, i)", "  SKIP", ":", "SKIP");
        reads(0, 0, "INT FUNCTION p(VAL INT a, b, c, d, e, f, g, h) IS a:", "SKIP");
        reads(2, 1, "INT FUNCTION p(VAL INT a, b, c, d, e, f, g, h, i) IS a:", "SKIP");
        reads(2, 1, "PROC p(INT a, INT b, INT c, INT d, INT e, INT f, INT g, INT h, INT i)", "  SKIP", ":", "SKIP");
        reads(2, 1, "PROC p(a)", "  SKIP", ":", "SKIP");
        reads(2, 1, "PROC p(VAL a)", "  SKIP", ":", "SKIP");
        reads(2, 1, "PROC p(INT a, VAL b)", "  SKIP", ":", "SKIP");
        reads(2, 1, "PROC p([3] INT a)", "  SKIP", ":", "SKIP");
        reads(2, 1, "PROC p(TIMER a)", "  SKIP", ":", "SKIP");
        reads(2, 1, "PROC p(INT)", "  SKIP", ":", "SKIP");
        reads(2, 1, "PROC p", "  SKIP", ":", "SKIP");
        // A NAME is like the one ahead, VAL and all.
        reads(6, 2, "PROC p(VAL INT a, b)", "  b := 1", ":", "SKIP");
        reads(0, 0, "PROC p(VAL INT a, INT b, c)", "  c := 1", ":", "SKIP");
        reads(0, 0, "PROC p([] CHAN OF INT a, b)", "  b[0] ! 1", ":", "SKIP");
    }

    /** "(E & ends at the first & ; a GUARD without E is SKIP or begins with an ELEMENT and ? .)" */
    private static void guards() {
        String[] good = {"SKIP", "c ? x", "d[0] ? x", "t ? AFTER 3", "t ? x", "TRUE & SKIP", "(1 = 2) & c ? x",
            "1 = 2 & c ? x", "v[0] = 1 & t ? AFTER 3"};
        for (String guard : good) {
            reads(0, 0, "CHAN OF INT c:", "[1] CHAN OF INT d:", "INT x:", "TIMER t:", "[2] INT v:", "ALT", "  " + guard,
                    "    SKIP");
        }
        String[] bad = {"TRUE", "c", "c ! x", "(c) ? x", "1 ? x", "TRUE & TRUE & SKIP", "TRUE & TRUE", "& SKIP", "c ?",
            "SKIP & SKIP", "TRUE & (c) ? x", "x + c ? x", "c ? x & SKIP", "STOP", "TRUE & STOP", "f() ? x", "-c ? x",
            "c ? AFTER", "x := 1"};
        for (String guard : bad) {
            reads(2, 2, "ALT", "  " + guard, "    SKIP");
        }
    }

    /** "E: OPERAND; or - ~ NOT MINUS SIZE OPERAND; or OPERAND OP OPERAND; or OPERAND AND OPERAND AND .. ; likewise OR." */
    private static void operands() {
        value(2, "1 + 2 + 3");
        value(2, "1 + (-2) - 3");
        value(2, "- - 1");
        value(2, "1 + - 1");
        value(2, "- 1 + 1");
        value(2, "SIZE v + 1");
        value(0, "(- 1) + (- 1)");
        value(0, "- (- 1)");
        value(2, "+ 1");
        value(2, "1 +");
        value(2, "MOSTPOS");
        value(2, "MOSTPOS BYTE");
        value(2, "MOSTNEG (INT)");
        value(2, "x(1)(2)");
        value(2, "(x)[0]");
        value(2, "x[0][0]");
        value(2, "\"abc\"[0]");
        value(2, "[1, 2][0]");
        reads(2, 2, "BOOL b:", "b := b AND b OR b");
        reads(2, 2, "BOOL b:", "b := b OR b AND b");
        reads(2, 2, "BOOL b:", "b := b AND");
        reads(2, 2, "BOOL b:", "b := NOT b AND b");
        reads(2, 2, "BOOL b:", "b := b AND NOT b");
        reads(2, 2, "BOOL b:", "b := 1 = 1 AND b");
        reads(0, 0, "BOOL b:", "b := (1 = 1) AND b AND b AND (NOT b)");
        reads(0, 0, "BOOL b:", "b := b OR b OR b OR b");
    }

    /** "all else on one line": the end of a line can't stand within, and nothing behind. */
    private static void wholeLines() {
        reads(2, 2, "INT x:", "x :=", "  1");
        reads(2, 1, "INT x,", "y:", "SKIP");
        reads(2, 1, "INT x", ":", "SKIP");
        reads(2, 1, "INT x: INT y:", "SKIP");
        reads(2, 1, "SEQ SKIP");
        reads(2, 2, "IF", "  TRUE SKIP");
        reads(2, 3, "PROC p()", "  SKIP", ": SKIP", "SKIP");
        reads(2, 3, "PROC p()", "  SKIP", "SKIP");
        reads(2, 1, "PROC p() SKIP", ":", "SKIP");
        reads(2, 1, "PROC p() IS SKIP:", "SKIP");
        reads(2, 1, "INT FUNCTION f() IS 1", ":", "SKIP");
        reads(2, 2, "PROTOCOL p", "  CASE a", ":", "SKIP");
    }

    /** "the end, and the end of a line, too .. (of a line's end that line, of the end one more than there are bytes 10)". */
    private static void theEnd() {
        read(2, 1, "");
        read(2, 2, "\n");
        read(2, 3, "\n\n");
        read(2, 1, "INT x:");
        read(2, 2, "INT x:\n");
        read(2, 4, "INT x:\n\n\n");
        read(2, 1, "INT x");
        read(2, 1, "INT x\n\n\n");
        read(2, 1, "WHILE TRUE");
        read(2, 2, "WHILE TRUE\n");
        read(2, 4, "PROC p()\n  SKIP\n\n");
        read(2, 4, "PROC p()\n  SKIP\n:\n");
        read(0, 0, "PROC p()\n  SKIP\n:\np()");
        read(2, 5, "PROC p()\n  SKIP\n:\np()\np()");
        read(2, 5, "PROC p()\n  SKIP\n:\np()\n:");
    }

    /** "the first one, token by token, of one token the least". */
    private static void firstFault() {
        reads(1, 2, "SEQ", "     @");
        reads(1, 2, "SEQ", "@");
        reads(1, 1, "SKIP @");
        reads(2, 1, "SKIP x @");
        reads(2, 1, "SKIP x", "@");
        reads(1, 1, "@ x");
        reads(1, 2, "SEQ", "  INT x @");
        reads(1, 2, "SEQ", "  INT x: @");
        // A ninth ELEMENT that is no token is 1.
        reads(1, 2, "INT a:", "a, a, a, a, a, a, a, a, @");
        reads(2, 2, "INT a:", "a, a, a, a, a, a, a, a, a @");
        // Faults of the text come ahead of all rounds.
        reads(2, 3, "INT x, x:", "y := TRUE", "SKIP");
        reads(1, 3, "INT x, x:", "y := TRUE", "\"");
    }

    private static String depth(int d, String line) {
        return " ".repeat(2 * d) + line + "\n";
    }

    /** SEQs at depths 0 to n - 1, in as many lines. */
    private static String within(int n) {
        StringBuilder all = new StringBuilder();
        for (int d = 0; d < n; d++) {
            all.append(depth(d, "SEQ"));
        }
        return all.toString();
    }

    /** "3 a line that could stand there (by its depth and first token), at a depth above 20 (at that token)". */
    private static void depthOfTwenty() {
        read(0, 0, within(20) + depth(20, "SKIP"));
        read(0, 0, within(20) + depth(20, "SEQ"));
        read(3, 22, within(21) + depth(21, "SKIP"));
        read(3, 22, within(21) + depth(21, "SEQ") + depth(22, "SKIP"));
        read(3, 22, within(21) + depth(21, "INT x"));
        read(3, 22, within(21) + depth(21, "x + @"));
        // What could not stand there at any depth, or should stand at another one, is 2; what is no token 1.
        read(2, 22, within(21) + depth(21, "ELSE"));
        read(2, 22, within(21) + depth(21, "1"));
        read(2, 22, within(21) + depth(21, ":"));
        read(2, 22, within(21) + depth(22, "SKIP"));
        read(2, 22, within(21) + " " + depth(21, "SKIP"));
        read(1, 22, within(21) + depth(21, "@"));
        read(0, 0, within(21) + depth(20, "SKIP"));
        read(2, 23, within(21) + depth(20, "SKIP") + depth(21, "SKIP"));
        read(3, 22, within(20) + depth(20, "PAR") + depth(21, "SKIP"));
        read(3, 22, within(20) + depth(20, "PAR i = 0 FOR 1") + depth(21, "SKIP"));
        read(3, 22, within(20) + depth(20, "WHILE TRUE") + depth(21, "SKIP"));
        read(2, 22, within(20) + depth(20, "WHILE TRUE") + depth(20, "SKIP"));
        read(3, 22, within(20) + depth(20, "PROC p()") + depth(21, "SKIP"));
        read(0, 0, within(19) + depth(19, "PROC p()") + depth(20, "SKIP") + depth(19, ":") + depth(19, "SKIP"));
    }

    /** The same for lines that are no PROCESS, and for those two deeper. */
    private static void depthOfVariants() {
        read(3, 22, within(20) + depth(20, "IF") + depth(21, "TRUE"));
        read(3, 22, within(20) + depth(20, "IF") + depth(21, "-"));
        read(2, 22, within(20) + depth(20, "IF") + depth(21, "SKIP"));
        read(3, 22, within(19) + depth(19, "IF") + depth(20, "TRUE") + depth(21, "SKIP"));
        read(0, 0, within(18) + depth(18, "IF") + depth(19, "TRUE") + depth(20, "SKIP"));
        read(3, 22, within(20) + depth(20, "CASE 1") + depth(21, "1"));
        read(3, 22, within(20) + depth(20, "CASE 1") + depth(21, "ELSE"));
        read(2, 22, within(20) + depth(20, "CASE 1") + depth(21, "SKIP"));
        read(3, 22, within(19) + depth(19, "CASE 1") + depth(20, "1") + depth(21, "SKIP"));
        read(3, 22, within(20) + depth(20, "ALT") + depth(21, "SKIP"));
        read(3, 22, within(20) + depth(20, "ALT") + depth(21, "TRUE & SKIP"));
        read(2, 22, within(20) + depth(20, "ALT") + depth(21, "STOP"));
        read(3, 22, within(20) + depth(20, "ALT i = 0 FOR 1") + depth(21, "SKIP"));
        read(2, 22, within(20) + depth(20, "ALT i = 0 FOR 1") + depth(20, "SKIP"));
        read(3, 22, within(19) + depth(19, "ALT") + depth(20, "SKIP") + depth(21, "SKIP"));
        read(3, 22, within(19) + depth(19, "ALT") + depth(20, "c ? CASE") + depth(21, "a"));
        read(3, 22, within(20) + depth(20, "c ? CASE") + depth(21, "a"));
        read(2, 22, within(20) + depth(20, "c ? CASE") + depth(21, "SKIP"));
        read(3, 22, within(19) + depth(19, "c ? CASE") + depth(20, "a") + depth(21, "SKIP"));
        read(3, 22, within(20) + depth(20, "PROTOCOL p") + depth(21, "CASE"));
        read(2, 22, within(20) + depth(20, "PROTOCOL p") + depth(21, "a"));
        read(3, 22, within(19) + depth(19, "PROTOCOL p") + depth(20, "CASE") + depth(21, "a"));
        read(2, 22, within(19) + depth(19, "PROTOCOL p") + depth(20, "CASE") + depth(21, "1"));
        read(0, 0, within(18) + depth(18, "PROTOCOL p") + depth(19, "CASE") + depth(20, "a") + depth(18, ":")
                + depth(18, "SKIP"));
        read(3, 22, within(20) + depth(20, "INT FUNCTION f()") + depth(21, "VALOF"));
        read(3, 22, within(20) + depth(20, "INT FUNCTION f()") + depth(21, "INT x:"));
        read(2, 22, within(20) + depth(20, "INT FUNCTION f()") + depth(21, "SKIP"));
        read(3, 22, within(19) + depth(19, "INT FUNCTION f()") + depth(20, "VALOF") + depth(21, "SKIP"));
        read(0, 0, within(18) + depth(18, "INT FUNCTION f()") + depth(19, "VALOF") + depth(20, "SKIP")
                + depth(20, "RESULT 1") + depth(18, ":") + depth(18, "SKIP"));
    }

    /** "or the 21st ( , [ or CONVERSION that is open in its line". */
    private static void twentyOpen() {
        value(0, "(".repeat(20) + "1" + ")".repeat(20));
        value(3, "(".repeat(21) + "1" + ")".repeat(21));
        value(3, "(".repeat(21));
        value(2, "(".repeat(20));
        value(1, "(".repeat(20) + "@");
        value(2, "(".repeat(20) + "1" + ")".repeat(19));
        value(2, "(".repeat(20) + "1" + ")".repeat(21));
        value(0, "INT ".repeat(20) + "1");
        value(3, "INT ".repeat(21) + "1");
        value(3, "INT ".repeat(20) + "(1)");
        value(3, "(".repeat(20) + "INT 1" + ")".repeat(20));
        value(3, "SIZE " + "(".repeat(20) + "[1]" + ")".repeat(20));
        value(0, "SIZE " + "(".repeat(19) + "[1]" + ")".repeat(19));
        // A CONVERSION is open up to the end of its OPERAND; what was closed counts no more.
        value(3, "(".repeat(19) + "(INT 1) + (INT 2)" + ")".repeat(19));
        value(0, "(".repeat(18) + "(INT 1) + (INT 2)" + ")".repeat(18));
        value(0, "(".repeat(19) + "INT 1" + ")".repeat(19));
        value(0, "(".repeat(19) + "(1) + (2)" + ")".repeat(19));
        value(3, "(".repeat(19) + "(1) + ((2))" + ")".repeat(19));
        reads(0, 0, "[2] INT v:", "v" + "[v".repeat(19) + "[0]" + "]".repeat(19) + " := 1");
        reads(3, 2, "[2] INT v:", "v" + "[v".repeat(20) + "[0]" + "]".repeat(20) + " := 1");
        reads(0, 0, "INT FUNCTION f(VAL INT a) IS a:", "INT x:", "x := " + "f(".repeat(20) + "1" + ")".repeat(20));
        reads(3, 3, "INT FUNCTION f(VAL INT a) IS a:", "INT x:", "x := " + "f(".repeat(21) + "1" + ")".repeat(21));
        reads(0, 0, "PROC p(VAL INT a)", "  SKIP", ":", "p(" + "(".repeat(19) + "1" + ")".repeat(19) + ")");
        reads(3, 4, "PROC p(VAL INT a)", "  SKIP", ":", "p(" + "(".repeat(20) + "1" + ")".repeat(20) + ")");
        // Each line begins with none.
        reads(0, 0, "INT x:", "SEQ", "  x := " + "(".repeat(20) + "1" + ")".repeat(20),
                "  x := " + "(".repeat(20) + "1" + ")".repeat(20));
        reads(0, 0, "[" + "(".repeat(19) + "1" + ")".repeat(19) + "] INT v:", "SKIP");
        reads(3, 1, "[" + "(".repeat(20) + "1" + ")".repeat(20) + "] INT v:", "SKIP");
        reads(3, 1, "PROTOCOL p IS [" + "(".repeat(20) + "1" + ")".repeat(20) + "] INT:", "SKIP");
    }

    /** A line of an IF, CASE or ALT begins with any token that an E begins with. */
    private static void firstTokens() {
        for (String e : new String[] {"1", "#1", "'a'", "\"a\"", "TRUE", "FALSE", "MOSTPOS INT", "MOSTNEG INT", "INT 1",
                "BYTE 1", "BOOL 1", "(1)",
            "[1]", "x", "f(1)", "- 1", "~ 1", "NOT TRUE", "MINUS 1", "SIZE x"}) {
            read(3, 22, within(20) + depth(20, "IF") + depth(21, e));
            read(3, 22, within(20) + depth(20, "CASE 1") + depth(21, e));
            read(3, 22, within(20) + depth(20, "ALT") + depth(21, e + " & SKIP"));
        }
        for (String token : new String[] {")", "]", "+", "*", ":=", "?", "!", "&", ":", ";", ",", "AFTER", "AND", "OR",
                "PLUS", "TIMES", "OF", "IS",
            "FOR", "CASE", "IF", "PAR", "SEQ", "VAL", "CHAN", "PROC", "RESULT", "VALOF", "STOP"}) {
            read(2, 22, within(20) + depth(20, "IF") + depth(21, token));
            read(2, 22, within(20) + depth(20, "CASE 1") + depth(21, token));
            read(2, 22, within(20) + depth(20, "ALT") + depth(21, token));
        }
        reads(0, 0, "INT x:", "IF", "  MOSTPOS INT = x", "    SKIP", "  MOSTNEG INT = x", "    SKIP");
    }

    /** "TYPE: INT, BYTE, BOOL .. KIND: TYPE, or a NAME. PART: TYPE, or [ E ] TYPE." */
    private static void kindsAndTypes() {
        reads(2, 1, "VAL a b IS 3:", "SKIP");
        reads(2, 1, "VAL [] a b IS 3:", "SKIP");
        reads(2, 1, "PROC p(VAL a b)", "  SKIP", ":", "SKIP");
        reads(2, 1, "PROC p(a b)", "  SKIP", ":", "SKIP");
        reads(2, 1, "PROC p([] a b)", "  SKIP", ":", "SKIP");
        reads(2, 1, "[3] a b:", "SKIP");
        reads(2, 1, "PROTOCOL p IS a:", "SKIP");
        reads(2, 1, "PROTOCOL p IS [3] a:", "SKIP");
        reads(2, 1, "PROTOCOL p IS [] INT:", "SKIP");
        reads(2, 1, "PROTOCOL p IS CHAN OF INT:", "SKIP");
        reads(2, 1, "CHAN OF CHAN OF INT c:", "SKIP");
        reads(2, 1, "CHAN OF [3] INT c:", "SKIP");
        reads(2, 1, "CHAN INT c:", "SKIP");
        reads(2, 1, "CHAN OF TIMER c:", "SKIP");
        reads(2, 1, "[2] TIMER t:", "SKIP");
        reads(2, 1, "TIMER t IS u:", "SKIP");
        reads(2, 1, "a FUNCTION f() IS 1:", "SKIP");
        reads(0, 0, "PROTOCOL k IS BOOL:", "[2] CHAN OF k c:", "SKIP");
    }

    private static void depthsOfFunctions() {
        reads(2, 3, "INT FUNCTION f()", "  INT x:", "    VALOF", "      SKIP", "    RESULT 1", ":", "SKIP");
        reads(2, 3, "INT FUNCTION f()", "  INT x:", "VALOF", "    SKIP", "    RESULT 1", ":", "SKIP");
        reads(2, 2, "INT FUNCTION f()", "    VALOF", "    SKIP", "    RESULT 1", ":", "SKIP");
        reads(2, 3, "INT FUNCTION f()", "  VALOF", "  SKIP", "    RESULT 1", ":", "SKIP");
        reads(2, 4, "INT FUNCTION f()", "  VALOF", "    SKIP", "      RESULT 1", ":", "SKIP");
        reads(2, 5, "INT FUNCTION f()", "  VALOF", "    SKIP", "    RESULT 1", "  :", "SKIP");
        reads(2, 5, "INT FUNCTION f()", "  VALOF", "    SKIP", "    RESULT 1", "    RESULT 2", ":", "SKIP");
        // A fault of RESULT is in its own line.
        reads(7, 4, "INT FUNCTION f()", "  VALOF", "    SKIP", "    RESULT TRUE", ":", "SKIP");
        reads(9, 4, "INT FUNCTION f()", "  VALOF", "    SKIP", "    RESULT 1 / 0", ":", "SKIP");
    }
}
