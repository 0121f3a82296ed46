/** Promise 4, the fourth round: faults 13 to 15. */
public final class SidesTest {
    public static void main(String[] args) {
        variables();
        elements();
        channels();
        calls();
        abbreviations();
        replicated();
        nested();
        Trial.finish("SidesTest");
    }

    private static void reads(int fault, int line, String... lines) {
        Trial.reads(fault, line, lines);
    }

    /** Two branches in lines 7 and 8. */
    private static void two(int fault, int line, String first, String second) {
        reads(fault, line, "INT x, y, z:", "[8] INT v:", "[4] CHAN OF INT c:", "VAL INT n IS 3:", "TIMER t:", "PAR",
                "  " + first,
                "  " + second);
    }

    private static void variables() {
        two(0, 0, "x := 1", "y := 2");
        two(13, 8, "x := y", "y := 2");
        two(13, 8, "x := 1", "y := x");
        two(13, 8, "x := 1", "x := 2");
        two(0, 0, "x := z", "y := z");
        two(13, 8, "c[0] ? x", "y := x");
        two(13, 8, "y := x", "c[0] ? x");
        two(0, 0, "x := SIZE v", "v[0] := 1");
        two(13, 8, "v[x] := 1", "x := 1");
        two(0, 0, "t ? x", "t ? y");
        two(13, 8, "t ? x", "x := 1");
        two(13, 8, "x := 1", "c[x] ! 1");
        // Each use counts at its own line.
        reads(13, 6, "INT x, y:", "PAR", "  SEQ", "    x := 1", "  SEQ", "    y := x", "    y := x");
        reads(13, 8, "INT x, y:", "PAR", "  SEQ", "    y := 2", "  SEQ", "    SKIP", "  SEQ", "    y := x");
        reads(0, 0, "INT x:", "SEQ", "  x := 1", "  x := 2", "  PAR", "    SKIP", "    x := 3");
        // What is declared within is no one else's.
        reads(0, 0, "PAR", "  INT x:", "  x := 1", "  INT x:", "  x := 1");
    }

    private static void elements() {
        two(0, 0, "v[0] := 1", "v[1] := 1");
        two(13, 8, "v[0] := 1", "v[0] := 1");
        two(13, 8, "v[0] := 1", "v[x] := 1");
        two(13, 8, "x := v[y]", "v[1] := 1");
        two(0, 0, "v[n] := 1", "v[n + 1] := 1");
        two(13, 8, "v[n] := 1", "v[n + 0] := 1");
        two(13, 8, "v := v", "v[0] := 1");
        two(0, 0, "x := v[0]", "y := v[0]");
    }

    private static void channels() {
        two(0, 0, "c[0] ! 1", "c[0] ? x");
        two(14, 8, "c[0] ! 1", "c[0] ! 1");
        two(15, 8, "c[0] ? x", "c[0] ? y");
        two(14, 8, "c[x] ! 1", "c[3] ! 1");
        two(0, 0, "c[2] ! 1", "c[3] ! 1");
        two(14, 8, "screen ! 'a'", "screen ! 'b'");
        two(15, 8, "keyboard ? x", "keyboard ? y");
        two(13, 8, "c[1] ? x", "c[1] ? x");
        reads(15, 7, "CHAN OF INT c:", "INT x, y:", "PAR", "  c ? x", "  SEQ", "    ALT", "      c ? y",
                "        SKIP");
    }

    private static void calls() {
        String[] ahead = {"INT x, y:", "[4] INT v:", "PROC sets(INT a)", "  a := 1", ":", "PROC idle(INT a)",
                "  SKIP", ":",
            "PROC global()", "  v[0] := x", ":", "INT FUNCTION f(VAL INT a) IS v[1] + a:", "PAR"};
        reads(0, 0, Trial.with(ahead, "  sets(x)", "  sets(y)"));
        reads(13, 15, Trial.with(ahead, "  sets(x)", "  sets(x)"));
        reads(0, 0, Trial.with(ahead, "  idle(x)", "  sets(x)"));
        reads(13, 15, Trial.with(ahead, "  sets(x)", "  global()"));
        reads(13, 15, Trial.with(ahead, "  global()", "  sets(x)"));
        // All arrays as a whole.
        reads(13, 15, Trial.with(ahead, "  global()", "  v[3] := 1"));
        reads(13, 15, Trial.with(ahead, "  v[3] := 1", "  x := f(1)"));
        reads(13, 15, Trial.with(ahead, "  x := f(1)", "  v[3] := 1"));
        reads(0, 0, Trial.with(ahead, "  x := f(1)", "  y := f(2)"));
        reads(0, 0, Trial.with(ahead, "  sets(v[0])", "  sets(v[1])"));
        reads(13, 15, Trial.with(ahead, "  sets(v[0])", "  sets(v[0])"));
        String[] channels = {"PROC put(CHAN OF INT a)", "  a ! 1", ":", "PROC all([] CHAN OF INT a)", "  a[0] ! 1", ":",
            "[3] CHAN OF INT c:", "INT x:", "PAR"};
        reads(0, 0, Trial.with(channels, "  put(c[0])", "  c[0] ? x"));
        reads(14, 11, Trial.with(channels, "  put(c[0])", "  put(c[0])"));
        reads(0, 0, Trial.with(channels, "  put(c[0])", "  put(c[1])"));
        reads(14, 11, Trial.with(channels, "  all(c)", "  put(c[2])"));
        // A PAR within a PROC: its FORMALs are declared outside of it.
        reads(13, 4, "PROC p(INT a)", "  PAR", "    a := 1", "    a := 2", ":", "SKIP");
    }

    private static void abbreviations() {
        reads(13, 5, "INT x:", "INT y IS x:", "PAR", "  x := 1", "  y := 2");
        reads(0, 0, "[3] INT x:", "INT y IS x[1]:", "PAR", "  x[0] := 1", "  y := 2");
        reads(13, 5, "[3] INT x:", "INT y IS x[1]:", "PAR", "  x[1] := 1", "  y := 2");
        reads(13, 6, "[3] INT x:", "INT i:", "INT y IS x[i]:", "PAR", "  x[1] := 1", "  y := 2");
        reads(0, 0, "[3] INT x:", "[] INT y IS x:", "PAR", "  x[1] := 1", "  y[2] := 2");
        // Made of something is no use of it, but its index is used.
        reads(0, 0, "INT x:", "PAR", "  x := 1", "  INT y IS x:", "  SKIP");
        reads(13, 5, "INT x:", "[3] INT v:", "PAR", "  x := 1", "  INT y IS v[x]:", "  SKIP");
        reads(13, 4, "INT x:", "PAR", "  x := 1", "  VAL INT y IS x:", "  SKIP");
    }

    private static void replicated() {
        String[] ahead = {"[12] INT v:", "[12] CHAN OF INT c:", "INT x:"};
        reads(0, 0, Trial.with(ahead, "PAR i = 0 FOR 12", "  v[i] := i"));
        reads(13, 5, Trial.with(ahead, "PAR i = 0 FOR 2", "  v[0] := i"));
        reads(0, 0, Trial.with(ahead, "PAR i = 0 FOR 1", "  v[0] := i"));
        reads(0, 0, Trial.with(ahead, "PAR i = 0 FOR 0", "  v[0] := i"));
        reads(13, 5, Trial.with(ahead, "PAR i = 0 FOR 3", "  x := i"));
        reads(0, 0, Trial.with(ahead, "PAR i = 0 FOR 6", "  v[i] := v[i + 6]"));
        reads(13, 5, Trial.with(ahead, "PAR i = 0 FOR 7", "  v[i] := v[i + 5]"));
        reads(0, 0, Trial.with(ahead, "PAR i = 0 FOR 5", "  c[i + 1] ! 1"));
        reads(14, 5, Trial.with(ahead, "PAR i = 0 FOR 5", "  c[i / 2] ! 1"));
        reads(0, 0, Trial.with(ahead, "PAR i = 0 FOR 5", "  INT y:", "  SEQ", "    c[i] ? y", "    c[i + 1] ! y"));
        reads(0, 0, Trial.with(ahead, "PAR i = 0 FOR 3", "  SEQ j = 0 FOR 4", "    v[(i * 4) + j] := 1"));
        reads(13, 6, Trial.with(ahead, "PAR i = 0 FOR 3", "  SEQ j = 0 FOR 4", "    v[(i * 3) + j] := 1"));
        reads(13, 6, Trial.with(ahead, "PAR i = 0 FOR 3", "  SEQ j = 0 FOR x", "    v[(i * 4) + j] := 1"));
        reads(0, 0, Trial.with(ahead, "PAR i = 0 FOR 3", "  VAL INT k IS i + 2:", "  v[k] := 1"));
        // Wrapping: MOSTPOS INT, MOSTNEG INT, ..
        reads(0, 0, Trial.with(ahead, "PAR i = MOSTPOS INT FOR 2", "  v[i >> 31] := 1"));
        // A value that is no index is none.
        reads(0, 0, Trial.with(ahead, "PAR i = 11 FOR 3", "  v[i] := 1"));
        reads(0, 0, "PROC p([] INT a)", "  PAR i = 198 FOR 4", "    a[i] := 1", ":", "SKIP");
    }

    private static void nested() {
        reads(13, 5, "INT x:", "PAR", "  PAR", "    x := 1", "    x := 2", "  SKIP");
        reads(13, 6, "INT x:", "PAR", "  PAR", "    x := 1", "    SKIP", "  x := 1");
        reads(0, 0, "[64] INT v:", "PAR i = 0 FOR 8", "  PAR j = 0 FOR 8", "    v[(i * 8) + j] := 1");
        reads(13, 4, "[64] INT v:", "PAR i = 0 FOR 8", "  PAR j = 0 FOR 8", "    v[(i * 7) + j] := 1");
        reads(13, 5, "[64] INT v:", "PAR i = 0 FOR 32", "  PAR j = 0 FOR 32", "    SEQ", "      v[0] := 1");
        // WEIGHT above 1,000: j is not KNOWN, but i is.
        reads(0, 0, "[64] INT v:", "PAR i = 0 FOR 32", "  PAR j = 0 FOR 1", "    v[i] := 1");
        reads(13, 4, "[64] INT v:", "PAR i = 0 FOR 32", "  PAR j = 0 FOR 32", "    v[i] := 1");
        reads(13, 4, "[64] INT v:", "SEQ i = 0 FOR 32", "  PAR j = 0 FOR 32", "    v[j] := 1");
        reads(0, 0, "[64] INT v:", "SEQ i = 0 FOR 31", "  PAR j = 0 FOR 32", "    v[j] := 1");
    }
}
