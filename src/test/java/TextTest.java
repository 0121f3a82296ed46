/** Promise 4, the text: tokens, the grammar, faults 1 to 3. */
public final class TextTest {
    public static void main(String[] args) {
        tokens();
        signs();
        depths();
        actions();
        declarations();
        limits();
        opened();
        ends();
        counts();
        Trial.finish("TextTest");
    }

    private static void reads(int fault, int line, String... lines) {
        Trial.reads(fault, line, lines);
    }

    private static void value(int fault, String e) {
        reads(fault, 2, "INT x:", "x := " + e);
    }

    private static void tokens() {
        value(0, "2147483647");
        value(1, "2147483648");
        value(0, "0000000001");
        value(1, "00000000001");
        value(1, "12a");
        value(1, "12.");
        value(0, "#0");
        value(0, "#FFFFFFFF");
        value(1, "#FFFFFFFFF");
        value(1, "#");
        value(1, "#G");
        value(1, "#12G");
        value(1, "#ab");
        value(1, "1 @ 2");
        value(1, "1\t+ 2");
        value(0, "1+2--3");
        value(0, "1--");
        value(2, "1 -");
        reads(0, 0, "INT a234567890123456:", "a234567890123456:=1");
        reads(1, 1, "INT a2345678901234567:", "SKIP");
        reads(0, 0, "INT a.b9:", "a.b9 := 3");
        reads(1, 1, ".a := 3");
        // The first fault counts, token by token.
        reads(2, 2, "INT x:", "x + @", "y := #");
        reads(1, 2, "INT x:", "x @ +", "y := #");
        reads(1, 1, "@", "SKIP");
        reads(1, 2, "SEQ", "     @", "  SKIP");
    }

    private static void signs() {
        value(0, "INT 'a'");
        value(0, "INT ' '");
        value(0, "INT '*n'");
        value(0, "INT '*''");
        value(0, "INT '*\"'");
        value(0, "INT '**'");
        value(1, "INT '*x'");
        value(1, "INT ''");
        value(1, "INT '''");
        value(1, "INT '\"'");
        value(1, "INT 'ab'");
        value(1, "INT 'a");
        value(0, "SIZE \"a\"");
        value(0, "SIZE \"*n*t*s*'*\"**\"");
        value(0, "SIZE \"--\" -- a note");
        value(1, "SIZE \"\"");
        value(1, "SIZE \"ab");
        value(1, "SIZE \"a'b\"");
        String thirty = "123456789012345678901234567890";
        value(0, "SIZE \"" + thirty + thirty + "\"");
        value(1, "SIZE \"" + thirty + thirty + "1\"");
        value(0, "INT '-'--note");
        value(1, "INT '\u007f'");
        value(0, "INT '~'");
        MeetingHouse house = Trial.ran(1, "SEQ", "  screen ! '*n'", "  screen ! '*t'", "  screen ! '*s'",
                "  screen ! '*''",
                "  screen ! '*\"'", "  screen ! '**'");
        Trial.dueText("escapes", Trial.shown(house), "\n\t '\"*");
    }

    private static void depths() {
        reads(0, 0, "SEQ", "  SKIP", "", "  -- note", "-- note", "  SKIP", "      ");
        reads(2, 2, "SEQ", " SKIP");
        reads(2, 2, "SEQ", "    SKIP");
        reads(2, 3, "SEQ", "  SKIP", "    SKIP");
        reads(2, 3, "SEQ", "  SKIP", "SKIP");
        reads(2, 2, "SKIP", "SKIP");
        reads(2, 1, "  SKIP");
        reads(2, 2, "INT x:", "  x := 1");
        reads(2, 3, "IF", "  TRUE", "  SKIP");
        reads(0, 0, "IF", "  TRUE", "    SKIP");
        // An odd number of blanks is at the line's first token, 1 comes ahead of 2.
        reads(1, 2, "SEQ", " @");
        StringBuilder deep = new StringBuilder();
        for (int d = 0; d < 20; d++) {
            deep.append(" ".repeat(2 * d)).append("SEQ\n");
        }
        read(0, deep + " ".repeat(40) + "SKIP\n");
        read(16 * 22 + 3, deep + " ".repeat(40) + "SEQ\n" + " ".repeat(42) + "SKIP\n");
        read(16 * 22 + 3, deep + " ".repeat(40) + "SEQ\n" + " ".repeat(42) + "INT x:\n");
        read(16 * 22 + 2, deep + " ".repeat(40) + "SEQ\n" + " ".repeat(42) + "ELSE\n");
        read(16 * 22 + 2, deep + " ".repeat(40) + "SEQ\n" + " ".repeat(44) + "SKIP\n");
        read(16 * 22 + 1, deep + " ".repeat(40) + "SEQ\n" + " ".repeat(42) + "@\n");
        read(16 * 22 + 3, deep + " ".repeat(40) + "IF\n" + " ".repeat(42) + "TRUE\n");
        read(16 * 22 + 3, deep + " ".repeat(40) + "CASE 1\n" + " ".repeat(42) + "ELSE\n");
        read(16 * 22 + 3, deep + " ".repeat(40) + "ALT\n" + " ".repeat(42) + "SKIP\n");
        read(16 * 22 + 3, deep + " ".repeat(40) + "c ? CASE\n" + " ".repeat(42) + "tag; x\n");
        read(16 * 22 + 2, deep + " ".repeat(40) + "c ? CASE\n" + " ".repeat(42) + "3\n");
        read(16 * 22 + 3, deep + " ".repeat(40) + "PROTOCOL p\n" + " ".repeat(42) + "CASE\n");
        read(16 * 22 + 3, deep + " ".repeat(40) + "INT FUNCTION f()\n" + " ".repeat(42) + "VALOF\n");
    }

    private static void read(int want, String text) {
        Trial.due("read of\n" + text, Trial.house(text).read(), want);
    }

    private static void actions() {
        reads(0, 0, "STOP");
        reads(0, 0, "SEQ");
        reads(0, 0, "PAR");
        reads(0, 0, "IF");
        reads(0, 0, "ALT");
        reads(0, 0, "PRI ALT");
        reads(0, 0, "CASE 1");
        reads(2, 1, "PRI PAR");
        reads(2, 2, "WHILE TRUE");
        reads(2, 1, "WHILE");
        reads(2, 2, "SEQ i = 0 FOR 3");
        reads(2, 3, "SEQ i = 0 FOR 3", "  SKIP", "  SKIP");
        reads(2, 3, "PAR i = 0 FOR 3", "  SKIP", "  SKIP");
        reads(2, 2, "ALT i = 0 FOR 3");
        reads(2, 4, "ALT i = 0 FOR 3", "  SKIP", "    SKIP", "  SKIP", "    SKIP");
        reads(2, 1, "SEQ i = 0", "  SKIP");
        reads(2, 4, "CASE 1", "  ELSE", "    SKIP", "  1", "    SKIP");
        reads(0, 0, "CASE 1", "  1, 2, 3", "    SKIP", "  ELSE", "    STOP");
        reads(2, 2, "CHAN OF INT c:", "c ? 3");
        reads(2, 3, "CHAN OF INT c:", "c ? CASE");
        reads(2, 2, "CHAN OF INT c:", "c ! ");
        reads(2, 2, "INT a, b:", "a, b ? a");
        reads(2, 2, "INT a, b:", "(a) := 1");
        reads(2, 2, "INT a:", "a := -(-1) + 2");
        reads(0, 0, "INT a:", "a := (-1) + 2");
        reads(2, 2, "BOOL a:", "a := TRUE AND FALSE OR TRUE");
        reads(0, 0, "BOOL a:", "a := TRUE AND FALSE AND TRUE");
        reads(2, 2, "INT a:", "a := 1 + 2 + 3");
        reads(2, 3, "CHAN OF INT c:", "ALT", "  (c) ? x", "    SKIP");
        reads(2, 3, "CHAN OF INT c:", "ALT", "  TRUE", "    SKIP");
        reads(2, 3, "CHAN OF INT c:", "ALT", "  TRUE & 3", "    SKIP");
        reads(0, 0, "CHAN OF INT c:", "INT x:", "ALT", "  TRUE & c ? x", "    SKIP", "  c ? x", "    SKIP",
                "  1 = 2 & SKIP",
                "    SKIP");
    }

    private static void declarations() {
        reads(0, 0, "INT a, b, c:", "[3] BYTE d:", "CHAN OF INT e, f:", "[2] CHAN OF BOOL g:", "TIMER t, u:", "SKIP");
        reads(0, 0, "INT a:", "INT b IS a:", "[3] INT c:", "[] INT d IS c:", "CHAN OF INT e:", "CHAN OF INT f IS e:",
                "SKIP");
        reads(2, 2, "INT a:", "INT b, c IS a:", "SKIP");
        reads(2, 2, "[3] INT a:", "[3] INT b IS a:", "SKIP");
        reads(2, 1, "[] INT a:", "SKIP");
        reads(2, 1, "INT a", "SKIP");
        reads(2, 1, "INT a: SKIP");
        reads(2, 1, "VAL CHAN OF INT a IS 3:", "SKIP");
        reads(2, 1, "VAL [3] INT a IS [1, 2, 3]:", "SKIP");
        reads(0, 0, "VAL [] INT a IS [1, 2, 3]:", "SKIP");
        reads(0, 0, "PROTOCOL p IS INT; [3] BYTE:", "SKIP");
        reads(0, 0, "PROTOCOL p", "  CASE", "    a", "    b; INT", ":", "SKIP");
        reads(2, 3, "PROTOCOL p", "  CASE", ":", "SKIP");
        reads(2, 2, "PROTOCOL p", "    CASE", "    a", ":", "SKIP");
        reads(2, 4, "PROTOCOL p", "  CASE", "    a", "SKIP");
        reads(0, 0, "PROC p()", "  SKIP", ":", "p()");
        reads(2, 2, "PROC p()", ":", "SKIP");
        reads(2, 3, "PROC p()", "  SKIP", "  :", "SKIP");
        reads(2, 5, "PROC p()", "  SKIP", ":", "");
        reads(2, 1, "PROC p(a)", "  SKIP", ":", "SKIP");
        reads(2, 1, "PROC p(VAL CHAN OF INT a)", "  SKIP", ":", "SKIP");
        reads(2, 1, "PROC p(INT a,)", "  SKIP", ":", "SKIP");
        reads(0, 0, "PROC p(INT a, b, VAL [] BYTE c, CHAN OF INT d, e, [] CHAN OF BOOL f, g)", "  SKIP", ":", "SKIP");
        reads(0, 0, "INT FUNCTION f(VAL INT a) IS a + 1:", "SKIP");
        reads(0, 0, "INT FUNCTION f(VAL INT a)", "  INT b:", "  VALOF", "    b := a", "    RESULT b", ":", "SKIP");
        reads(2, 3, "INT FUNCTION f(VAL INT a)", "  VALOF", "    RESULT a", ":", "SKIP");
        reads(2, 5, "INT FUNCTION f(VAL INT a)", "  VALOF", "    SKIP", "    RESULT a", "SKIP");
        reads(2, 4, "INT FUNCTION f(VAL INT a)", "  VALOF", "    SKIP", "  RESULT a", ":", "SKIP");
        reads(2, 1, "[3] INT FUNCTION f() IS 3:", "SKIP");
        reads(2, 3, "INT a:", "INT b:");
    }

    private static void limits() {
        reads(0, 0, "INT a:", "a, a, a, a, a, a, a, a := 1, 2, 3, 4, 5, 6, 7, 8");
        reads(2, 2, "INT a:", "a, a, a, a, a, a, a, a, a := 1, 2, 3, 4, 5, 6, 7, 8, 9");
        reads(8, 2, "INT a:", "a := 1, 2, 3, 4, 5, 6, 7, 8, 9");
        String parts = "INT; INT; INT; INT; INT; INT; INT; INT; INT; INT; INT; INT; INT; INT; INT; INT";
        String sixteen = "a; a; a; a; a; a; a; a; a; a; a; a; a; a; a; a";
        reads(0, 0, "PROTOCOL p IS " + parts + ":", "CHAN OF p c:", "INT a:", "PAR", "  c ! " + sixteen, "  SKIP");
        reads(2, 1, "PROTOCOL p IS " + parts + "; INT:", "SKIP");
        reads(2, 3, "CHAN OF INT c:", "INT a:", "c ! " + sixteen + "; a");
        reads(2, 3, "CHAN OF INT c:", "INT a:", "c ? " + sixteen + "; a");
        reads(2, 3, "PROTOCOL p", "  CASE", "    t; " + parts + "; INT", ":", "SKIP");
        reads(0, 0, "PROTOCOL p", "  CASE", "    t; " + parts, ":", "CHAN OF p c:", "INT a:", "c ? CASE",
                "  t; " + sixteen,
                "    SKIP");
        reads(2, 8, "PROTOCOL p", "  CASE", "    t; " + parts, ":", "CHAN OF p c:", "INT a:", "c ? CASE",
                "  t; " + sixteen + "; a", "    SKIP");
        // The tag is an OUT, too.
        reads(2, 7, "PROTOCOL p", "  CASE", "    t; " + parts, ":", "CHAN OF p c:", "INT a:", "c ! t; " + sixteen);
        reads(0, 0, "PROC p(INT a, b, c, d, e, f, g, h)", "  SKIP", ":", "SKIP");
        reads(2, 1, "PROC p(INT a, b, c, d, e, f, g, h, i)", "  SKIP", ":", "SKIP");
        reads(2, 1, "PROC p(INT a, b, c, d, e, f, g, h, BYTE i)", "  SKIP", ":", "SKIP");
    }

    private static void opened() {
        value(0, "(".repeat(20) + "1" + ")".repeat(20));
        value(3, "(".repeat(21) + "1" + ")".repeat(21));
        value(0, "INT ".repeat(20) + "1");
        value(3, "INT ".repeat(21) + "1");
        value(0, "INT ".repeat(10) + "(".repeat(10) + "1" + ")".repeat(10));
        value(3, "INT ".repeat(10) + "(".repeat(11) + "1" + ")".repeat(11));
        value(2, "(".repeat(20) + "+");
        value(3, "(".repeat(20) + "SIZE [1])" + ")".repeat(19));
        reads(3, 2, "[2] INT x:", "x" + "[x".repeat(21) + "]".repeat(21) + " := 1");
        reads(0, 0, "[2] INT x:", "x" + "[x".repeat(19) + "[0" + "]".repeat(20) + " := 1");
        // What was closed is open no more.
        value(0, "(".repeat(19) + "(1) + (2)" + ")".repeat(19));
    }

    private static void ends() {
        read(18, "");
        read(16 * 3 + 2, "\n\n");
        read(0, "SKIP");
        read(0, "\n\nSKIP\n\n");
        read(16 + 2, "WHILE");
        read(16 * 2 + 2, "WHILE TRUE\n");
        read(16 + 2, "WHILE TRUE");
        read(16 * 4 + 2, "-- a\nINT x:\n\n");
        read(16 * 2 + 2, "INT x:\nx :=\n");
        read(16 * 2 + 1, "INT x:\nx := \"abc\n");
    }

    private static void counts() {
        MeetingHouse house = Trial.house("-- note\nINT x, y:\n\nSEQ\n  x := 1 + y -- note\n  SKIP\n");
        Trial.due("read()", house.read(), 0);
        Trial.due("count(0)", house.count(0), 5 + 1 + 5 + 1);
        Trial.due("count(1)", house.count(1), 4);
        Trial.due("count(2)", house.count(2), 2);
        Trial.feed(house, "SKIP SKIP");
        Trial.due("count(0) while another text is fed", house.count(0), 12);
        Trial.due("read()", house.read(), 18);
        Trial.due("count(0) without a program", house.count(0), 0);
        Trial.due("count(1) without a program", house.count(1), 0);
        Trial.due("count(2) without a program", house.count(2), 0);
    }
}
