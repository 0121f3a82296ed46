/** Promise 4, the second round: faults 7 to 10. */
public final class TypesTest {
    private static final String[] TAGS = {"PROTOCOL p", "  CASE", "    a", "    b; INT", "    d; BYTE; [3] INT", ":",
        "CHAN OF p c:", "INT x:", "[3] INT v:", "[4] INT w:", "BYTE y:"};

    public static void main(String[] args) {
        operations();
        faultyParts();
        arrays();
        control();
        assignments();
        parameters();
        abbreviations();
        messages();
        tagged();
        constants();
        bounds();
        options();
        Trial.finish("TypesTest");
    }

    private static void reads(int fault, int line, String... lines) {
        Trial.reads(fault, line, lines);
    }

    /** An E of a TYPE with some names in it. */
    private static void value(int fault, String type, String e) {
        reads(fault, 8, "INT i, j:", "BYTE b:", "BOOL t:", "[3] INT v:", "[3] BYTE s:",
                "INT FUNCTION f(VAL INT a) IS a:",
                type + " r:", "r := " + e);
    }

    private static void operations() {
        for (String op : new String[] {"+", "-", "*", "/", "\\", "PLUS", "MINUS", "TIMES", "/\\", "\\/", "><", "<<",
                ">>"}) {
            value(0, "INT", "i " + op + " j");
            value(7, "BOOL", "i " + op + " j");
            value(7, "INT", "i " + op + " b");
            value(7, "INT", "t " + op + " j");
        }
        value(0, "BOOL", "i AFTER j");
        value(7, "INT", "i AFTER j");
        for (String op : new String[] {"=", "<>", "<", "<=", ">", ">="}) {
            boolean same = op.equals("=") || op.equals("<>");
            value(0, "BOOL", "i " + op + " j");
            value(0, "BOOL", "b " + op + " 'a'");
            value(same ? 0 : 7, "BOOL", "t " + op + " TRUE");
            value(7, "BOOL", "i " + op + " b");
            value(7, "BOOL", "v " + op + " v");
            value(7, "INT", "i " + op + " j");
        }
        value(0, "BOOL", "t AND t AND TRUE");
        value(7, "BOOL", "t AND t AND 1");
        value(7, "BOOL", "1 OR t");
        value(0, "BOOL", "NOT t");
        value(7, "BOOL", "NOT 1");
        value(0, "INT", "- i");
        value(7, "INT", "- b");
        value(0, "INT", "MINUS i");
        value(7, "INT", "MINUS t");
        value(0, "INT", "~ i");
        value(7, "INT", "~ t");
        value(0, "INT", "SIZE v");
        value(0, "INT", "SIZE \"abc\"");
        value(7, "INT", "SIZE i");
        value(7, "BYTE", "SIZE v");
        value(0, "INT", "INT b");
        value(0, "INT", "INT INT t");
        value(0, "BYTE", "BYTE i");
        value(0, "BOOL", "BOOL b");
        value(7, "INT", "INT v");
        value(7, "INT", "INT \"a\"");
        value(7, "INT", "'a'");
        value(0, "BYTE", "'a'");
        value(7, "BYTE", "\"a\"");
        value(0, "INT", "MOSTPOS INT");
        value(7, "BYTE", "MOSTNEG INT");
    }

    private static void faultyParts() {
        // What has a fault fits; what is made of it has its own.
        value(9, "BOOL", "1 / 0");
        value(9, "BOOL", "(1 / 0)");
        value(7, "BOOL", "(1 / 0) + 1");
        value(9, "INT", "(1 / 0) + 1");
        value(9, "BOOL", "t AND (1 / 0)");
        value(7, "INT", "i + (i = t)");
        value(9, "BOOL", "v[3]");
        value(7, "BOOL", "v[1 / 0]");
        value(9, "INT", "v[1 / 0]");
        value(7, "BOOL", "f(1 / 0)");
        value(9, "INT", "f(1 / 0)");
        value(8, "INT", "f(1, 2)");
        value(7, "BOOL", "f(1, 2)");
        value(9, "INT", "SIZE [1 / 0]");
        reads(9, 2, "[1] BOOL r:", "r := [1 / 0]");
        reads(7, 2, "[2] BOOL r:", "r := [1 / 0]");
        reads(7, 2, "[2] BOOL r:", "r := [1 / 0, 1]");
        reads(9, 2, "BOOL r:", "r := [1 / 0]");
    }

    private static void arrays() {
        value(0, "INT", "v[i]");
        value(7, "INT", "v[b]");
        value(7, "INT", "i[0]");
        value(7, "INT", "v");
        value(7, "BYTE", "v[0]");
        value(0, "BYTE", "s[0]");
        value(7, "INT", "SIZE [1, TRUE]");
        value(7, "INT", "SIZE [v, v]");
        value(0, "INT", "SIZE [1, i, f(j)]");
        value(7, "INT", "[1]");
        reads(7, 2, "[2] CHAN OF INT c:", "c ! 1");
        reads(7, 3, "[2] CHAN OF INT c:", "INT x:", "c ? x");
        reads(7, 2, "CHAN OF INT c:", "c[0] ! 1");
        reads(7, 3, "TIMER t:", "INT x:", "t[0] ? x");
        reads(7, 2, "TIMER t:", "t[0] ? AFTER 3");
        reads(7, 3, "TIMER t:", "BYTE x:", "t ? x");
        reads(7, 3, "TIMER t:", "[3] INT x:", "t ? x");
        reads(0, 0, "TIMER t:", "[3] INT x:", "t ? x[1]");
    }

    private static void control() {
        reads(7, 2, "IF", "  1", "    SKIP");
        reads(7, 1, "WHILE 'a'", "  SKIP");
        reads(7, 2, "ALT", "  1 & SKIP", "    SKIP");
        reads(7, 2, "TIMER t:", "t ? AFTER TRUE");
        reads(7, 1, "SEQ i = TRUE FOR 1", "  SKIP");
        reads(7, 1, "SEQ i = 0 FOR 'a'", "  SKIP");
        reads(7, 1, "PAR i = 0 FOR 'a'", "  SKIP");
        reads(7, 1, "ALT i = 'a' FOR 0", "  SKIP", "    SKIP");
        reads(7, 1, "[TRUE] INT x:", "SKIP");
        reads(7, 1, "PROTOCOL p IS ['a'] INT:", "SKIP");
        reads(7, 1, "CASE TRUE", "  TRUE", "    SKIP");
        reads(7, 1, "CASE \"a\"", "  'a'", "    SKIP");
        reads(7, 2, "CASE 1", "  'a'", "    SKIP");
        reads(0, 0, "CASE 'b'", "  'a'", "    SKIP");
        reads(7, 1, "INT FUNCTION f() IS TRUE:", "SKIP");
        reads(7, 4, "BOOL FUNCTION f()", "  VALOF", "    SKIP", "    RESULT 3", ":", "SKIP");
        reads(7, 1, "VAL INT x IS TRUE:", "SKIP");
        reads(7, 1, "VAL [] INT x IS \"abc\":", "SKIP");
        reads(7, 1, "VAL [] BYTE x IS 'a':", "SKIP");
        reads(7, 1, "VAL BYTE x IS \"a\":", "SKIP");
        reads(0, 0, "VAL [] BYTE x IS \"abc\":", "SKIP");
    }

    private static void assignments() {
        reads(8, 2, "INT x, y:", "x, y := 1");
        reads(8, 2, "INT x, y:", "x := 1, 2");
        reads(7, 2, "INT x, y:", "x, y := TRUE");
        reads(7, 2, "INT x, y:", "x := TRUE, 1");
        reads(7, 2, "INT x, y:", "x := 1, (1 + TRUE)");
        reads(0, 0, "[3] INT x, y:", "x := y");
        reads(7, 3, "[3] INT x:", "[4] INT y:", "x := y");
        reads(7, 3, "[3] INT x:", "[3] BYTE y:", "x := y");
        reads(7, 2, "[3] INT x:", "x := 3");
        reads(7, 2, "[3] INT x:", "x := [1, 2]");
        reads(0, 0, "[3] INT x:", "x := [1, 2, 3]");
        reads(7, 2, "[3] BYTE x:", "x := \"ab\"");
        reads(0, 0, "[3] INT x:", "PROC p(VAL [] INT y)", "  x := y", ":", "p(x)");
        reads(7, 4, "[3] INT x:", "[2] INT y:", "[] INT z IS y:", "x := z");
        reads(7, 4, "[3] INT x:", "[2] INT y:", "VAL [] INT z IS y:", "x := z");
    }

    private static void parameters() {
        String[] ahead = {"PROC p(INT a, VAL [] BYTE b)", "  SKIP", ":", "INT x:", "[3] BYTE y:", "[3] INT z:"};
        reads(0, 0, Trial.with(ahead, "p(x, y)"));
        reads(0, 0, Trial.with(ahead, "p(z[1], \"abc\")"));
        reads(8, 7, Trial.with(ahead, "p(x)"));
        reads(8, 7, Trial.with(ahead, "p(x, y, x)"));
        reads(7, 7, Trial.with(ahead, "p(TRUE)"));
        reads(7, 7, Trial.with(ahead, "p(1, y)"));
        reads(7, 7, Trial.with(ahead, "p((x), y)"));
        reads(7, 7, Trial.with(ahead, "p(x, z)"));
        reads(7, 7, Trial.with(ahead, "p(x, 'a')"));
        reads(7, 7, Trial.with(ahead, "p(z, y)"));
        reads(7, 8, Trial.with(ahead, "VAL INT v IS 3:", "p(v, y)"));
        reads(7, 8, Trial.with(ahead, "SEQ i = 0 FOR 3", "  p(i, y)"));
        reads(9, 7, Trial.with(ahead, "p(z[3], y)"));
        String[] channels = {"PROTOCOL k IS INT:", "PROTOCOL l IS INT:", "PROC p(CHAN OF k a, [] CHAN OF INT b)",
                "  SKIP", ":",
            "CHAN OF k e:", "CHAN OF l f:", "[3] CHAN OF INT g:", "[3] CHAN OF BYTE h:", "INT x:"};
        reads(0, 0, Trial.with(channels, "p(e, g)"));
        reads(7, 11, Trial.with(channels, "p(f, g)"));
        reads(7, 11, Trial.with(channels, "p(e, h)"));
        reads(7, 11, Trial.with(channels, "p(g[0], g)"));
        reads(7, 11, Trial.with(channels, "p(e, g[0])"));
        reads(7, 11, Trial.with(channels, "p(x, g)"));
        reads(7, 5, "PROC p(INT a)", "  SKIP", ":", "CHAN OF INT c:", "p(c)");
        reads(7, 5, "PROC p(VAL INT a)", "  SKIP", ":", "CHAN OF INT c:", "p(c)");
    }

    private static void abbreviations() {
        reads(7, 2, "INT x:", "BYTE y IS x:", "SKIP");
        reads(7, 2, "[3] INT x:", "INT y IS x:", "SKIP");
        reads(7, 2, "INT x:", "[] INT y IS x:", "SKIP");
        reads(0, 0, "[3] INT x:", "INT y IS x[2]:", "[] INT z IS x:", "SKIP");
        reads(9, 2, "[3] INT x:", "INT y IS x[3]:", "SKIP");
        reads(7, 3, "[3] INT x:", "[] INT y IS x:", "[] BYTE z IS y:", "SKIP");
        reads(9, 3, "[3] INT x:", "[] INT y IS x:", "y[3] := 1");
        reads(7, 2, "CHAN OF INT x:", "CHAN OF BYTE y IS x:", "SKIP");
        reads(7, 4, "PROTOCOL p IS INT:", "PROTOCOL q IS INT:", "CHAN OF p x:", "CHAN OF q y IS x:", "SKIP");
        reads(0, 0, "PROTOCOL p IS INT:", "[2] CHAN OF p x:", "CHAN OF p y IS x[1]:", "[] CHAN OF p z IS x:", "SKIP");
    }

    private static void messages() {
        reads(0, 0, "CHAN OF INT c:", "c ! 1");
        reads(7, 2, "CHAN OF INT c:", "c ! TRUE");
        reads(8, 2, "CHAN OF INT c:", "c ! 1; 2");
        reads(7, 2, "CHAN OF INT c:", "c ! TRUE; 2");
        reads(7, 3, "CHAN OF INT c:", "[3] INT x:", "c ! x");
        reads(7, 3, "CHAN OF INT c:", "BYTE x:", "c ? x");
        reads(8, 3, "CHAN OF INT c:", "INT x:", "c ? x; x");
        String[] ahead = {"PROTOCOL p IS INT; [3] BYTE:", "CHAN OF p c:", "INT x:", "[3] BYTE y:", "[4] BYTE z:"};
        reads(0, 0, Trial.with(ahead, "c ! 1; \"abc\""));
        reads(0, 0, Trial.with(ahead, "c ? x; y"));
        reads(8, 6, Trial.with(ahead, "c ! 1"));
        reads(8, 6, Trial.with(ahead, "c ! 1; y; 2"));
        reads(7, 6, Trial.with(ahead, "c ! 1; 'a'"));
        reads(7, 6, Trial.with(ahead, "c ! TRUE"));
        reads(7, 6, Trial.with(ahead, "c ? x; z"));
        reads(7, 6, Trial.with(ahead, "c ! 1; \"ab\""));
        reads(7, 6, Trial.with(ahead, "c ? x; y[0]"));
        reads(8, 7, Trial.with(ahead, "ALT", "  c ? x", "    SKIP"));
        reads(7, 6, "PROTOCOL q", "  CASE", "    a", ":", "CHAN OF INT c:", "c ? CASE", "  a", "    SKIP");
    }

    private static void tagged() {
        reads(0, 0, Trial.with(TAGS, "c ! a"));
        reads(0, 0, Trial.with(TAGS, "c ! d; 'a'; v"));
        reads(8, 12, Trial.with(TAGS, "c ! a; 1"));
        reads(8, 12, Trial.with(TAGS, "c ! b"));
        reads(7, 12, Trial.with(TAGS, "c ! b; TRUE"));
        reads(7, 12, Trial.with(TAGS, "c ! 1"));
        reads(7, 12, Trial.with(TAGS, "c ! d; 'a'; w"));
        reads(7, 12, Trial.with(TAGS, "c ? x"));
        reads(0, 0, Trial.with(TAGS, "c ? CASE", "  b; x", "    SKIP", "  a", "    SKIP", "  d; y; v", "    SKIP"));
        reads(8, 13, Trial.with(TAGS, "c ? CASE", "  b", "    SKIP"));
        reads(7, 13, Trial.with(TAGS, "c ? CASE", "  b; y", "    SKIP"));
        reads(7, 13, Trial.with(TAGS, "c ? CASE", "  d; y; w", "    SKIP"));
        reads(10, 15, Trial.with(TAGS, "c ? CASE", "  a", "    SKIP", "  a", "    SKIP"));
        reads(7, 16, Trial.with(TAGS, "PROTOCOL q", "  CASE", "    e", ":", "c ! e"));
        reads(7, 17, Trial.with(TAGS, "PROTOCOL q", "  CASE", "    e", ":", "c ? CASE", "  e", "    SKIP"));
        reads(7, 13, Trial.with(TAGS, "CHAN OF INT k:", "k ? CASE", "  a", "    SKIP"));
        reads(7, 13, Trial.with(TAGS, "ALT", "  c ? x", "    SKIP"));
        reads(10, 16, Trial.with(TAGS, "ALT", "  c ? CASE", "    a", "      SKIP", "    a", "      SKIP"));
    }

    private static void constants() {
        for (String e : new String[] {"1 / 0", "1 \\ 0", "(MOSTPOS INT) + 1", "(MOSTNEG INT) - 1", "65536 * 65536",
            "(MOSTNEG INT) / (-1)", "- (MOSTNEG INT)", "1 << 33", "1 >> (-1)", "INT (BYTE 256)", "INT (BOOL 2)"}) {
            value(9, "INT", e);
        }
        for (String e : new String[] {"(MOSTPOS INT) PLUS 1", "(MOSTNEG INT) MINUS 1", "65536 TIMES 65536",
                "(MOSTNEG INT) \\ (-1)",
            "MINUS (MOSTNEG INT)", "1 << 32", "1 >> 0", "INT (BYTE 255)", "INT (BOOL 1)", "i / 0", "(i / 0) + 1"}) {
            value(0, "INT", e);
        }
        value(9, "INT", "i + (1 / 0)");
        value(9, "BOOL", "t AND (1 = (1 / 0))");
        value(9, "INT", "v[-1]");
        value(9, "INT", "v[SIZE v]");
        value(0, "INT", "v[(SIZE v) - 1]");
        reads(9, 2, "PROC p([] INT a)", "  a[-1] := 1", ":", "SKIP");
        reads(0, 0, "PROC p([] INT a)", "  a[1000] := 1", ":", "SKIP");
        reads(9, 3, "VAL INT n IS 3:", "[n] INT a:", "a[n] := 1");
        reads(9, 2, "[3] CHAN OF INT a:", "a[3] ! 1");
        reads(9, 2, "VAL [] INT n IS [1, 2]:", "[n[0]] INT a:", "SKIP");
        reads(0, 0, "VAL [] INT n IS [1, 2]:", "[SIZE n] INT a:", "SKIP");
        reads(9, 2, "INT FUNCTION f() IS 3:", "[f()] INT a:", "SKIP");
        reads(9, 2, "INT x:", "[x] INT a:", "SKIP");
        reads(9, 2, "INT x:", "PROTOCOL p IS [x] INT:", "SKIP");
        reads(0, 0, "VAL BYTE b IS 'a':", "VAL INT n IS INT b:", "[n] INT a:", "a[96] := 1");
        reads(9, 4, "VAL BYTE b IS 'a':", "VAL INT n IS INT b:", "[n] INT a:", "a[97] := 1");
        reads(9, 1, "VAL INT n IS 1 / 0:", "SKIP");
        reads(9, 3, "PROC p(VAL [] INT a)", "  SEQ", "    [SIZE a] INT b:", "    SKIP", ":", "SKIP");
    }

    private static void bounds() {
        reads(0, 0, "[1] INT a:", "[200] INT b:", "SKIP");
        reads(9, 1, "[0] INT a:", "SKIP");
        reads(9, 1, "[201] INT a:", "SKIP");
        reads(9, 1, "PROTOCOL p IS [201] INT:", "SKIP");
        reads(0, 0, "PAR i = 0 FOR 0", "  SKIP");
        reads(0, 0, "PAR i = MOSTPOS INT FOR 64", "  SKIP");
        reads(9, 1, "PAR i = 0 FOR 65", "  SKIP");
        reads(9, 1, "PAR i = 0 FOR (-1)", "  SKIP");
        reads(9, 2, "INT x:", "PAR i = x FOR 1", "  SKIP");
        reads(9, 2, "INT x:", "PAR i = 0 FOR x", "  SKIP");
        reads(9, 1, "ALT i = 0 FOR 65", "  SKIP", "    SKIP");
        reads(9, 2, "INT x:", "ALT i = x FOR 6", "  SKIP", "    SKIP");
        reads(0, 0, "INT x:", "SEQ i = x FOR x", "  SKIP");
        reads(0, 0, "SEQ i = 0 FOR (-1)", "  SKIP");
        // 100 arrays of 200 are 20,000 cells.
        String[] many = new String[12];
        for (int i = 0; i < 10; i++) {
            many[i] = "[200] INT a, b, c, d, e, f, g, h, i, j:";
        }
        many[10] = "VAL [] INT v IS a:";
        many[11] = "SKIP";
        reads(0, 0, many);
        many[10] = "CHAN OF INT v:";
        reads(9, 11, many);
        many[10] = "PROC p()";
        many[11] = "  INT x:";
        reads(9, 12, Trial.with(many, "  SKIP", ":", "SKIP"));
        // 400 names, as count(2) tells them.
        String twenty = "a, b, c, d, e, f, g, h, i, j, k, l, m, n, o, p, q, r, s, t";
        String[] named = new String[22];
        for (int i = 0; i < 20; i++) {
            named[i] = (i % 2 == 0 ? "INT " : "TIMER ") + twenty + ":";
        }
        named[20] = "";
        named[21] = "SEQ y = 0 FOR 1";
        reads(0, 0, Trial.with(named, "  SKIP"));
        MeetingHouse house = Trial.house(Trial.lines(Trial.with(named, "  SKIP")));
        house.read();
        Trial.due("count(2)", house.count(2), 400);
        named[20] = "VAL INT x IS 1:";
        reads(9, 21, Trial.with(named, "  SKIP"));
        // 1,000 cells of a message.
        reads(0, 0, "PROTOCOL p IS [200] INT; [200] INT; [200] INT; [200] INT; [200] INT:", "SKIP");
        reads(9, 1, "PROTOCOL p IS [200] INT; [200] INT; [200] INT; [200] INT; [200] INT; INT:", "SKIP");
        reads(0, 0, "PROTOCOL p", "  CASE", "    a; [200] INT; [200] INT; [200] INT; [200] INT; [199] INT", ":",
                "SKIP");
        reads(9, 4, "PROTOCOL p", "  CASE", "    b", "    a; [200] INT; [200] INT; [200] INT; [200] INT; [200] INT",
                ":", "SKIP");
    }

    private static void options() {
        reads(10, 4, "CASE 1", "  1, 2", "    SKIP", "  3, 2", "    SKIP");
        reads(10, 2, "CASE 1", "  1, 1", "    SKIP");
        reads(0, 0, "CASE 1", "  1", "    CASE 1", "      1", "        SKIP", "  2", "    SKIP");
        reads(9, 3, "INT x:", "CASE 1", "  x", "    SKIP");
        reads(9, 2, "CASE 1", "  1 / 0", "    SKIP");
        reads(10, 5, "VAL INT n IS 3:", "CASE 1", "  3", "    SKIP", "  n", "    SKIP");
    }
}
