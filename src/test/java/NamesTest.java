/** Promise 4, the first round: faults 4 to 6. */
public final class NamesTest {
    public static void main(String[] args) {
        twice();
        unknown();
        known();
        wrongActions();
        wrongValues();
        tags();
        order();
        Trial.finish("NamesTest");
    }

    private static void reads(int fault, int line, String... lines) {
        Trial.reads(fault, line, lines);
    }

    private static void twice() {
        reads(4, 1, "INT a, b, a:", "SKIP");
        reads(0, 0, "INT a:", "INT a:", "SKIP");
        reads(4, 1, "CHAN OF INT a, a:", "SKIP");
        reads(4, 1, "TIMER a, a:", "SKIP");
        reads(4, 1, "PROC p(INT a, CHAN OF INT a)", "  SKIP", ":", "SKIP");
        reads(0, 0, "PROC p(INT p)", "  SKIP", ":", "SKIP");
        reads(4, 1, "INT FUNCTION f(VAL INT a, a) IS 1:", "SKIP");
        reads(4, 5, "PROTOCOL p", "  CASE", "    a", "    b; INT", "    a", ":", "SKIP");
        reads(0, 0, "PROTOCOL p", "  CASE", "    a", "    p", ":", "SKIP");
        reads(0, 0, "PROTOCOL p", "  CASE", "    a", ":", "PROTOCOL q", "  CASE", "    a", ":", "SKIP");
    }

    private static void unknown() {
        reads(5, 1, "x := 1");
        reads(5, 2, "INT x:", "x := y");
        reads(5, 2, "INT x:", "x := f(x)");
        reads(5, 1, "[n] INT x:", "SKIP");
        reads(5, 1, "VAL INT x IS x:", "SKIP");
        reads(5, 1, "CHAN OF p c:", "SKIP");
        reads(5, 1, "p()");
        reads(5, 2, "PROC p()", "  p()", ":", "p()");
        reads(5, 1, "INT FUNCTION f(VAL INT a) IS f(a):", "SKIP");
        reads(5, 1, "SEQ i = i FOR 3", "  SKIP");
        reads(5, 1, "SEQ i = 0 FOR i", "  SKIP");
        reads(5, 5, "INT x:", "SEQ", "  SEQ i = 0 FOR 3", "    x := i", "  x := i");
        reads(5, 5, "SEQ", "  INT x:", "  SEQ", "    x := 1", "  x := 1");
        reads(5, 4, "PROC p(INT a)", "  a := 1", ":", "a := 1");
        reads(5, 5, "INT FUNCTION f()", "  VALOF", "    INT a:", "    a := 1", "    RESULT a", ":", "SKIP");
        reads(5, 3, "CHAN OF INT c:", "c ? CASE", "  a", "    SKIP");
        reads(5, 1, "PROC p(CHAN OF q c)", "  SKIP", ":", "SKIP");
    }

    private static void known() {
        reads(0, 0, "INT x:", "SEQ", "  INT x:", "  x := 1", "  x := 2");
        // The innermost, latest one is meant.
        reads(6, 3, "INT x:", "CHAN OF INT x:", "x := 1");
        reads(0, 0, "CHAN OF INT x:", "INT x:", "x := 1");
        reads(6, 4, "INT x:", "SEQ", "  TIMER x:", "  x := 1");
        reads(0, 0, "INT x:", "SEQ", "  SEQ", "    TIMER x:", "    SKIP", "  x := 1");
        reads(0, 0, "INT x:", "INT x IS x:", "x := 1");
        reads(0, 0, "VAL INT x IS 3:", "VAL INT x IS x + 1:", "SKIP");
        reads(0, 0, "INT x:", "SEQ x = 0 FOR x", "  SKIP");
        reads(0, 0, "PROC p()", "  SKIP", ":", "PROC p()", "  p()", ":", "p()");
        reads(0, 0, "INT FUNCTION f()", "  INT a:", "  VALOF", "    a := 1", "    RESULT a", ":", "SKIP");
        // A FORMAL's KIND is looked for ahead of the list.
        reads(0, 0, "PROTOCOL p IS INT:", "PROC q(INT p, CHAN OF p c)", "  p := 1", ":", "SKIP");
        reads(0, 0, "SEQ", "  screen ! 'a'", "  INT x:", "  keyboard ? x");
        reads(6, 2, "INT screen:", "screen ! 'a'");
    }

    private static void wrongActions() {
        reads(6, 2, "VAL INT x IS 1:", "x := 1");
        reads(6, 2, "SEQ i = 0 FOR 3", "  i := 1");
        reads(6, 2, "PROC p(VAL INT x)", "  x := 1", ":", "SKIP");
        reads(6, 2, "CHAN OF INT c:", "c := 1");
        reads(6, 2, "INT x:", "x ? x");
        reads(6, 2, "INT x:", "x ! x");
        reads(0, 0, "TIMER t:", "INT x:", "t ? x");
        reads(6, 3, "TIMER t:", "INT x:", "t ? x; x");
        reads(6, 2, "TIMER t:", "t ! 1");
        reads(0, 0, "TIMER t:", "t ? AFTER 3");
        reads(6, 2, "CHAN OF INT c:", "c ? AFTER 3");
        reads(6, 2, "TIMER t:", "t ? CASE", "  a", "    SKIP");
        reads(6, 4, "TIMER t:", "INT x:", "ALT", "  t ? x; x", "    SKIP");
        reads(6, 3, "CHAN OF INT c:", "ALT", "  c ? AFTER 3", "    SKIP");
        reads(6, 3, "CHAN OF INT c:", "VAL INT v IS 3:", "c ? v");
        reads(6, 1, "INT FUNCTION f(INT a) IS 3:", "SKIP");
        reads(6, 1, "INT FUNCTION f(VAL INT a, BYTE b) IS 3:", "SKIP");
        reads(6, 2, "INT x:", "x()");
        reads(6, 2, "INT FUNCTION f() IS 3:", "f()");
        reads(6, 5, "PROC p()", "  SKIP", ":", "INT x:", "x := p()");
        reads(6, 2, "INT x:", "CHAN OF x c:", "SKIP");
        reads(6, 2, "VAL INT x IS 3:", "INT y IS x:", "SKIP");
        reads(6, 2, "CHAN OF INT x:", "INT y IS x:", "SKIP");
        reads(6, 2, "INT x:", "CHAN OF INT y IS x:", "SKIP");
        reads(6, 2, "TIMER x:", "INT y IS x:", "SKIP");
    }

    private static void wrongValues() {
        reads(6, 3, "CHAN OF INT c:", "INT x:", "x := c");
        reads(6, 3, "TIMER c:", "INT x:", "x := c");
        reads(6, 5, "PROC p()", "  SKIP", ":", "INT x:", "x := p");
        reads(6, 3, "INT FUNCTION f() IS 1:", "INT x:", "x := f");
        reads(6, 3, "PROTOCOL p IS INT:", "INT x:", "x := p");
        reads(0, 0, "PROC p(CHAN OF INT c)", "  SKIP", ":", "[2] CHAN OF INT d:", "CHAN OF INT e:", "SEQ",
                "  p(d[0])", "  p(e)");
        reads(6, 5, "PROC p(CHAN OF INT c)", "  SKIP", ":", "CHAN OF INT e:", "p((e))");
        reads(6, 5, "PROC p(VAL INT c)", "  SKIP", ":", "CHAN OF INT e:", "p(e + 1)");
        reads(6, 4, "INT FUNCTION f(VAL INT c) IS c:", "CHAN OF INT e:", "INT x:", "x := f(e)");
        reads(6, 5, "PROC p(VAL INT c)", "  SKIP", ":", "TIMER e:", "p(e)");
        reads(6, 5, "PROC p(VAL INT c)", "  SKIP", ":", "[3] CHAN OF INT e:", "p(SIZE e)");
    }

    private static void tags() {
        String[] ahead = {"PROTOCOL p", "  CASE", "    a", "    b; INT", ":", "CHAN OF p c:", "INT x:"};
        reads(0, 0, Trial.with(ahead, "c ! a"));
        reads(0, 0, Trial.with(ahead, "c ! b; 3"));
        reads(6, 8, Trial.with(ahead, "c ! x"));
        reads(5, 8, Trial.with(ahead, "c ! y"));
        reads(7, 8, Trial.with(ahead, "c ! (x)"));
        reads(6, 8, Trial.with(ahead, "c ! b[0]"));
        reads(6, 8, Trial.with(ahead, "x := a"));
        reads(6, 9, Trial.with(ahead, "CHAN OF INT d:", "d ! a"));
        reads(6, 8, Trial.with(ahead, "c ! b; a"));
        reads(6, 9, Trial.with(ahead, "c ? CASE", "  x", "    SKIP"));
        reads(6, 9, Trial.with(ahead, "INT a:", "c ! a"));
        // A tag may have its PROTOCOL's name; the tag is meant then.
        reads(6, 5, "PROTOCOL q", "  CASE", "    q", ":", "CHAN OF q c:", "SKIP");
    }

    private static void order() {
        // The lowest line, of one line the least; a later round only if there is none.
        reads(5, 3, "INT x:", "SEQ", "  x := y + screen", "  y := 1");
        reads(6, 2, "SEQ", "  screen := 1", "  y := 1");
        reads(5, 4, "INT x:", "SEQ", "  x := TRUE", "  y := 1");
        reads(7, 3, "INT x:", "SEQ", "  x := TRUE", "  x := FALSE");
        reads(2, 5, "INT x:", "SEQ", "  x := TRUE", "  y := 1", " SKIP");
    }
}
