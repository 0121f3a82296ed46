/** Promise 4, the third round: faults 11 and 12. */
public final class ActsTest {
    public static void main(String[] args) {
        functions();
        calledByFunctions();
        ends();
        twoParameters();
        outside();
        places();
        Trial.finish("ActsTest");
    }

    private static void reads(int fault, int line, String... lines) {
        Trial.reads(fault, line, lines);
    }

    /** A FUNCTION whose only ACT stands in line 8. */
    private static void function(int fault, String... act) {
        String[] ahead = {"CHAN OF INT c:", "TIMER t:", "INT x:", "[3] INT v:", "INT FUNCTION f(VAL INT a)",
                "  INT y:"};
        String[] text = Trial.with(ahead, "  VALOF");
        text = Trial.with(text, act);
        reads(fault, 8, Trial.with(text, "    RESULT y", ":", "SKIP"));
    }

    private static void functions() {
        function(0, "    y := x");
        function(0, "    SEQ i = 0 FOR 3", "      y := y + v[i]");
        function(11, "    x := 1");
        function(11, "    y, x := 1, 2");
        function(11, "    v[y] := 1");
        function(11, "    c ? y");
        function(11, "    c ! 1");
        function(11, "    t ? y");
        function(11, "    t ? AFTER 3");
        function(11, "    PAR", "      SKIP");
        function(11, "    ALT", "      SKIP", "        SKIP");
        function(0, "    IF", "      a = 1", "        y := 2", "      TRUE", "        SKIP");
        reads(11, 5, "INT x:", "INT FUNCTION f()", "  VALOF", "    PROC p()", "      x := 1", "    :", "    SKIP",
                "    RESULT 1", ":",
                "SKIP");
        reads(0, 0, "INT FUNCTION f()", "  INT y:", "  VALOF", "    PROC p(INT z)", "      z, y := 1, 2", "    :",
                "    INT w:",
                "    p(w)", "    RESULT y", ":", "SKIP");
        // The innermost FUNCTION counts.
        reads(11, 7, "INT FUNCTION f()", "  INT y:", "  VALOF", "    INT FUNCTION g()", "      INT z:", "      VALOF",
                "        y := 1", "        RESULT z", "    :", "    y := g()", "    RESULT y", ":", "SKIP");
        // An abbreviation is the place that it was made of.
        reads(11, 5, "INT x:", "INT FUNCTION f()", "  INT y IS x:", "  VALOF", "    y := 1", "    RESULT y", ":",
                "SKIP");
    }

    private static void calledByFunctions() {
        String[] ahead = {"CHAN OF INT c:", "INT x:", "PROC acts()", "  c ! 1", ":", "PROC changes()", "  x := 1", ":",
            "PROC sets(INT a)", "  a := 1", ":", "PROC uses(INT a)", "  INT b:", "  b := a", ":", "PROC through()",
            "  changes()", ":",
            "INT FUNCTION f()", "  INT y:", "  VALOF"};
        String[] behind = {"    RESULT y", ":", "SKIP"};
        reads(11, 22, Trial.with(Trial.with(ahead, "    acts()"), behind));
        reads(11, 22, Trial.with(Trial.with(ahead, "    changes()"), behind));
        reads(11, 22, Trial.with(Trial.with(ahead, "    through()"), behind));
        reads(11, 22, Trial.with(Trial.with(ahead, "    sets(x)"), behind));
        reads(0, 0, Trial.with(Trial.with(ahead, "    sets(y)"), behind));
        reads(0, 0, Trial.with(Trial.with(ahead, "    uses(x)"), behind));
    }

    private static void ends() {
        reads(11, 2, "BYTE x:", "screen ? x");
        reads(11, 1, "keyboard ! 1");
        reads(11, 3, "BYTE x:", "ALT", "  screen ? x", "    SKIP");
        reads(11, 2, "CHAN OF INT k IS keyboard:", "k ! 1");
        reads(11, 3, "CHAN OF BYTE s IS screen:", "BYTE x:", "s ? x");
        reads(0, 0, "PROC p(CHAN OF INT k)", "  k ! 1", ":", "p(keyboard)");
        reads(0, 0, "PROC p(CHAN OF BYTE s)", "  BYTE b:", "  s ? b", ":", "p(screen)");
    }

    private static void twoParameters() {
        String[] ahead = {"PROC p(INT a, b)", "  SKIP", ":", "PROC q(INT a, VAL INT b)", "  a := b", ":",
            "PROC r([] INT a, INT b)", "  SKIP", ":", "INT x, y:", "[3] INT v, w:"};
        reads(0, 0, Trial.with(ahead, "p(x, y)"));
        reads(12, 12, Trial.with(ahead, "p(x, x)"));
        reads(0, 0, Trial.with(ahead, "q(x, x)"));
        reads(0, 0, Trial.with(ahead, "p(v[0], v[1])"));
        reads(12, 12, Trial.with(ahead, "p(v[1], v[1])"));
        reads(12, 12, Trial.with(ahead, "p(v[x], v[1])"));
        reads(0, 0, Trial.with(ahead, "p(v[x], w[x])"));
        reads(12, 12, Trial.with(ahead, "r(v, v[0])"));
        reads(0, 0, Trial.with(ahead, "r(v, w[0])"));
        reads(12, 13, Trial.with(ahead, "INT z IS x:", "p(x, z)"));
        reads(12, 13, Trial.with(ahead, "INT z IS v[1]:", "p(v[x], z)"));
        reads(0, 0, Trial.with(ahead, "INT z IS v[1]:", "p(v[2], z)"));
        reads(12, 13, Trial.with(ahead, "[] INT z IS v:", "p(v[2], z[2])"));
        reads(12, 5, "PROC p(CHAN OF INT a, b)", "  SKIP", ":", "CHAN OF INT c:", "p(c, c)");
    }

    private static void outside() {
        String[] ahead = {"INT x, y:", "[3] INT v:", "PROC sets(INT a)", "  a := x", ":", "PROC uses(INT a)",
                "  INT b:", "  b := a + x",
            ":", "PROC idle(INT a)", "  x := 1", ":", "PROC array(INT a)", "  v[0] := 1", ":", "PROC through(INT a)",
            "  sets(a)", ":"};
        reads(12, 19, Trial.with(ahead, "sets(x)"));
        reads(0, 0, Trial.with(ahead, "sets(y)"));
        reads(0, 0, Trial.with(ahead, "uses(x)"));
        reads(12, 19, Trial.with(ahead, "idle(x)"));
        reads(12, 19, Trial.with(ahead, "through(x)"));
        // Arrays count as a whole.
        reads(12, 19, Trial.with(ahead, "array(v[1])"));
        reads(0, 0, Trial.with(ahead, "array(y)"));
        String[] channels = {"[2] CHAN OF INT c:", "CHAN OF INT d:", "PROC p(CHAN OF INT a)", "  c[0] ! 1", ":"};
        reads(12, 6, Trial.with(channels, "p(c[1])"));
        reads(0, 0, Trial.with(channels, "p(d)"));
        // What a PROC that stands within uses counts when it is called.
        reads(12, 8, "INT x:", "PROC p(INT a)", "  PROC q()", "    x := 1", "  :", "  q()", ":", "p(x)");
        reads(0, 0, "INT x:", "PROC p(INT a)", "  PROC q()", "    x := 1", "  :", "  a := 1", ":", "p(x)");
    }

    private static void places() {
        String[] ahead = {"PROC p(INT a, b)", "  SKIP", ":", "[12] INT v:"};
        reads(0, 0, Trial.with(ahead, "SEQ i = 0 FOR 3", "  p(v[i], v[i + 3])"));
        reads(12, 6, Trial.with(ahead, "SEQ i = 0 FOR 3", "  p(v[i], v[i + 2])"));
        reads(12, 6, Trial.with(ahead, "SEQ i = 0 FOR 3", "  p(v[i], v[i + 1])"));
        reads(0, 0, Trial.with(ahead, "SEQ i = 0 FOR 3", "  p(v[i * 2], v[(i * 2) + 1])"));
        // Values that would be a FAULT, or no index, are none.
        reads(0, 0, Trial.with(ahead, "SEQ i = 0 FOR 3", "  p(v[i - 1], v[i + 10])"));
        reads(0, 0, Trial.with(ahead, "SEQ i = 0 FOR 3", "  p(v[6 / i], v[i * 5])"));
        // Not KNOWN: count of no constant, or 0, or a WEIGHT above 1,000.
        reads(12, 7, Trial.with(ahead, "INT n:", "SEQ i = 0 FOR n", "  p(v[i], v[i + 3])"));
        reads(12, 6, Trial.with(ahead, "SEQ i = 0 FOR 0", "  p(v[i], v[i + 3])"));
        reads(0, 0, Trial.with(ahead, "SEQ j = 0 FOR 500", "  SEQ i = 0 FOR 2", "    p(v[i], v[i + 3])"));
        reads(12, 7, Trial.with(ahead, "SEQ j = 0 FOR 501", "  SEQ i = 0 FOR 2", "    p(v[i], v[i + 3])"));
        reads(0, 0, Trial.with(ahead, "INT n:", "SEQ j = 0 FOR n", "  SEQ i = 0 FOR 3", "    p(v[i], v[i + 3])"));
        reads(0, 0, Trial.with(ahead, "SEQ j = 0 FOR 2000", "  p(v[0], v[3])"));
        // VALs of such are KNOWN, too.
        reads(0, 0, Trial.with(ahead, "SEQ i = 0 FOR 3", "  VAL INT k IS i + 3:", "  p(v[i], v[k])"));
        reads(12, 7, Trial.with(ahead, "SEQ i = 0 FOR 3", "  VAL INT k IS i + 2:", "  p(v[i], v[k])"));
    }
}
