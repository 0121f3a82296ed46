/** The boundary cases of section 2, RULES, the third and fourth round: faults 11 to 15, PLACES, KNOWN and WEIGHT. */
public final class SideBoundsTest {
    public static void main(String[] args) {
        actsOfFunctions();
        changesOfFunctions();
        procsInFunctions();
        procsOfFunctions();
        screenAndKeyboard();
        parametersInCommon();
        outsideInCommon();
        channelsInCommon();
        eachUseAtItsLine();
        changedAndUsed();
        writtenAndRead();
        sizeAndIs();
        linesOfCalls();
        formalsNotUsed();
        arraysAsAWhole();
        abbreviatedPlaces();
        oneForEachValue();
        weights();
        weightsOfOthers();
        weightsAroundProcs();
        countsOfKnown();
        valuesThatAreFaults();
        valuesThatAreNoIndex();
        wrappingValues();
        eachByItself();
        everyUse();
        usesWithinBodies();
        usesThroughProcs();
        severalParameters();
        knownForms();
        manyKnown();
        procsThatStandAhead();
        manyPlaces();
        allElements();
        allElementsAsAWhole();
        Trial.finish("SideBoundsTest");
    }

    private static void reads(int fault, int line, String... lines) {
        Trial.reads(fault, line, lines);
    }

    /** A FUNCTION whose PROCESS begins in line 8, with y of its own and x, v, c, t from outside. */
    private static void function(int fault, int line, String... process) {
        String[] text = {"CHAN OF INT c:", "TIMER t:", "INT x:", "[3] INT v:", "INT FUNCTION f(VAL INT a)", "  INT y:",
            "  VALOF"};
        for (String one : process) {
            text = Trial.with(text, "    " + one);
        }
        reads(fault, line, Trial.with(text, "    RESULT y", ":", "SKIP"));
    }

    /** "11 a FUNCTION that .. has ?, !, ALT, PAR". */
    private static void actsOfFunctions() {
        function(0, 0, "SKIP");
        function(0, 0, "STOP");
        function(0, 0, "WHILE x = y", "  y := x + v[a]");
        function(11, 8, "PAR");
        function(11, 8, "PAR i = 0 FOR 0", "  SKIP");
        function(11, 8, "ALT");
        function(11, 8, "ALT", "  SKIP", "    SKIP");
        function(11, 8, "c ! 1");
        function(11, 8, "c ? y");
        function(11, 8, "t ? y");
        function(11, 8, "t ? AFTER 1");
        function(11, 11, "IF", "  x = 1", "    SEQ", "      c ! 1");
        function(11, 8, "screen ! 'a'");
    }

    /** "or changes what is declared outside of it". */
    private static void changesOfFunctions() {
        function(0, 0, "y := x");
        function(11, 8, "x := y");
        function(11, 8, "y, x := 1, 2");
        function(11, 8, "v[0] := 1");
        function(11, 8, "v := v");
        function(0, 0, "INT x:", "x := 1");
        function(11, 9, "INT z IS x:", "z := 1");
        function(0, 0, "INT z IS x:", "y := z");
        function(0, 0, "INT z IS y:", "z := 1");
        reads(11, 6, "INT FUNCTION f()", "  INT y:", "  INT FUNCTION g()", "    INT z:", "    VALOF", "      y := 1",
                "      RESULT z", "  :", "  VALOF", "    SKIP", "    RESULT y", ":", "SKIP");
        reads(0, 0, "INT FUNCTION f()", "  INT y:", "  INT FUNCTION g()", "    INT z:", "    VALOF", "      z := y",
                "      RESULT z", "  :", "  VALOF", "    y := g()", "    RESULT y", ":", "SKIP");
    }

    /** "(in its text, also in PROCs that stand in it ..": called or not, at the ACT. */
    private static void procsInFunctions() {
        function(11, 9, "PROC p()", "  c ! 1", ":", "SKIP");
        function(11, 9, "PROC p()", "  x := 1", ":", "SKIP");
        function(11, 9, "PROC p()", "  x := 1", ":", "p()");
        function(0, 0, "PROC p()", "  y := x", ":", "p()");
        function(0, 0, "PROC p(INT z)", "  z := x", ":", "p(y)");
        function(11, 11, "PROC p(INT z)", "  z := x", ":", "p(v[0])");
    }

    /** ".. or in PROCs that it calls) .. at the ACT (in a PROC that a FUNCTION calls: the call)". */
    private static void procsOfFunctions() {
        String[] ahead = {"CHAN OF INT c:", "INT x:", "PROC tells()", "  c ! 1", ":", "PROC sets()", "  x := 1", ":",
            "PROC has()", "  PROC in()", "    PAR", "  :", "  SKIP", ":", "PROC calls()", "  sets()", ":",
            "PROC gives(INT a)", "  a := 1", ":", "PROC takes(INT a)", "  INT b:", "  b := a", ":", "INT FUNCTION f()",
            "  INT y:", "  VALOF"};
        String[] behind = {"    RESULT y", ":", "SKIP"};
        reads(11, 28, Trial.with(Trial.with(ahead, "    tells()"), behind));
        reads(11, 28, Trial.with(Trial.with(ahead, "    sets()"), behind));
        reads(11, 28, Trial.with(Trial.with(ahead, "    calls()"), behind));
        reads(11, 28, Trial.with(Trial.with(ahead, "    gives(x)"), behind));
        reads(0, 0, Trial.with(Trial.with(ahead, "    gives(y)"), behind));
        reads(0, 0, Trial.with(Trial.with(ahead, "    takes(x)"), behind));
        reads(11, 29, Trial.with(Trial.with(ahead, "    SEQ", "      sets()"), behind));
        // Through several calls, too.
        reads(11, 10, "CHAN OF INT c:", "PROC p()", "  c ! 1", ":", "PROC q()", "  p()", ":", "INT FUNCTION f()", "  VALOF",
                "    q()", "    RESULT 1", ":", "SKIP");
        // A PROC's text has its own PROCs in it, all of them.
        reads(11, 28, Trial.with(Trial.with(ahead, "    has()"), behind));
        reads(11, 12, "PROC p()", "  PROC a()", "    PAR", "  :", "  PROC b()", "    SKIP", "  :", "  SKIP", ":",
                "INT FUNCTION f()", "  VALOF",
                "    p()", "    RESULT 1", ":", "SKIP");
    }

    /** "or screen ? , keyboard ! ; at the ACT". */
    private static void screenAndKeyboard() {
        reads(11, 2, "BYTE b:", "screen ? b");
        reads(11, 1, "keyboard ! 1");
        reads(0, 0, "INT k:", "SEQ", "  screen ! 'a'", "  keyboard ? k");
        reads(11, 4, "BYTE b:", "INT x:", "ALT", "  screen ? b", "    SKIP", "  keyboard ? x", "    SKIP");
        reads(11, 2, "CHAN OF INT k IS keyboard:", "k ! 1");
        reads(11, 3, "CHAN OF BYTE s IS screen:", "BYTE b:", "s ? b");
        // Through FORMALs they wait in the run.
        reads(0, 0, "PROC p(CHAN OF INT k)", "  k ! 1", ":", "p(keyboard)");
        reads(0, 0, "PROC p(CHAN OF BYTE s)", "  BYTE b:", "  s ? b", ":", "p(screen)");
        reads(0, 0, "PROC p(CHAN OF BYTE screen)", "  BYTE b:", "  screen ? b", ":", "SKIP");
    }

    /** "12 A call in which two parameters without VAL have a PLACE in common (in any case)". */
    private static void parametersInCommon() {
        String[] ahead = {"PROC p(INT a, b)", "  SKIP", ":", "PROC q(INT a, VAL INT b)", "  a := b", ":",
            "PROC r([] INT a, VAL [] INT b)", "  a := b", ":", "PROC s([] INT a, INT b)", "  SKIP", ":",
            "PROC u(CHAN OF INT a, b)", "  SKIP", ":", "INT x, y:", "[3] INT v, w:", "[2] CHAN OF INT c:"};
        reads(12, 19, Trial.with(ahead, "p(x, x)"));
        reads(0, 0, Trial.with(ahead, "p(x, y)"));
        reads(0, 0, Trial.with(ahead, "q(x, x)"));
        reads(0, 0, Trial.with(ahead, "r(v, v)"));
        reads(12, 19, Trial.with(ahead, "p(v[1], v[1])"));
        reads(0, 0, Trial.with(ahead, "p(v[1], v[2])"));
        reads(12, 19, Trial.with(ahead, "p(v[1], v[x])"));
        reads(12, 19, Trial.with(ahead, "s(v, v[2])"));
        reads(0, 0, Trial.with(ahead, "s(v, w[2])"));
        reads(12, 19, Trial.with(ahead, "u(c[1], c[1])"));
        reads(0, 0, Trial.with(ahead, "u(c[0], c[1])"));
        reads(12, 20, Trial.with(ahead, "INT z IS x:", "p(z, x)"));
        reads(12, 20, Trial.with(ahead, "INT z IS v[0]:", "p(z, v[0])"));
        reads(0, 0, Trial.with(ahead, "INT z IS v[0]:", "p(z, v[1])"));
        reads(12, 5, "PROC p(INT a, b, c)", "  SKIP", ":", "INT x, y:", "p(x, y, x)");
    }

    /** "or one has one in common with what the PROC uses from outside (this if the PROC changes one of both there". */
    private static void outsideInCommon() {
        String[] ahead = {"INT x, y:", "[3] INT v:", "PROC none(INT a)", "  SKIP", ":", "PROC uses(INT a)", "  INT b:",
            "  b := a + x", ":", "PROC setsA(INT a)", "  a := x", ":", "PROC setsX(INT a)", "  x := a", ":",
            "PROC onlyX(INT a)", "  x := 1", ":", "PROC onlyA(INT a)", "  a := 1", ":", "PROC array(INT a)",
            "  v[0] := 1", ":", "PROC size(INT a)", "  a := SIZE v", ":"};
        reads(0, 0, Trial.with(ahead, "none(x)"));
        reads(0, 0, Trial.with(ahead, "uses(x)"));
        reads(12, 28, Trial.with(ahead, "setsA(x)"));
        reads(12, 28, Trial.with(ahead, "setsX(x)"));
        reads(12, 28, Trial.with(ahead, "onlyX(x)"));
        reads(0, 0, Trial.with(ahead, "onlyA(x)"));
        reads(0, 0, Trial.with(ahead, "setsA(y)"));
        reads(12, 28, Trial.with(ahead, "array(v[0])"));
        reads(12, 28, Trial.with(ahead, "array(v[2])"));
        reads(0, 0, Trial.with(ahead, "array(x)"));
        reads(0, 0, Trial.with(ahead, "size(v[0])"));
        reads(12, 29, Trial.with(ahead, "INT z IS x:", "setsA(z)"));
    }

    /** "of channels: at all)". */
    private static void channelsInCommon() {
        String[] ahead = {"[2] CHAN OF INT c:", "CHAN OF INT d:", "PROC p(CHAN OF INT a)", "  d ! 1", ":",
            "PROC q(CHAN OF INT a)", "  SKIP", ":", "PROC r(CHAN OF INT a)", "  c[0] ! 1", ":",
            "PROC s(CHAN OF INT a)", "  INT x:", "  SEQ", "    a ! 1", "    d ? x", ":"};
        reads(12, 18, Trial.with(ahead, "p(d)"));
        reads(0, 0, Trial.with(ahead, "p(c[0])"));
        reads(0, 0, Trial.with(ahead, "q(d)"));
        reads(12, 18, Trial.with(ahead, "r(c[1])"));
        reads(12, 18, Trial.with(ahead, "s(d)"));
        reads(0, 0, Trial.with(ahead, "r(d)"));
    }

    /** Two branches in lines 8 and 9. */
    private static void two(int fault, String first, String second) {
        reads(fault, 9, "INT x, y, z:", "[8] INT v:", "[4] CHAN OF INT c:", "TIMER t:", "VAL INT n IS 3:",
                "BOOL b:", "PAR", "  " + first, "  " + second);
    }

    /** "Each use that goes badly with one in a branch ahead counts, at its line". */
    private static void eachUseAtItsLine() {
        reads(13, 4, "INT x:", "PAR", "  x := 1", "  x := 2", "  x := 3");
        reads(13, 7, "INT x, y:", "PAR", "  SEQ", "    x := 1", "  SEQ", "    y := 1", "    y := x", "  x := 3");
        // The later branch has the line, whether it changes or uses.
        reads(13, 4, "INT x, y:", "PAR", "  y := x", "  x := 1");
        reads(13, 5, "INT x, y:", "PAR", "  y := x", "  SKIP", "  x := 1");
        reads(13, 6, "INT x, y:", "PAR", "  IF", "    x = 1", "      SKIP", "  x := 1");
        reads(13, 6, "INT x, y:", "PAR", "  x := 1", "  IF", "    y = 1", "      y := x");
        // Of one line the least.
        reads(13, 5, "INT x:", "CHAN OF INT c:", "PAR", "  c ? x", "  c ? x");
        reads(14, 5, "INT x:", "CHAN OF INT c:", "PAR", "  c ! 1", "  c ! 2");
        // What goes badly within one branch alone does not count.
        reads(0, 0, "INT x:", "PAR", "  SEQ", "    x := 1", "    x := x + 1", "  SKIP");
        reads(0, 0, "INT x:", "SEQ", "  PAR", "    x := 1", "  PAR", "    x := 2");
    }

    /** "13 what is changed in one is used in another one". */
    private static void changedAndUsed() {
        two(0, "x := 1", "y := 1");
        two(0, "x := z", "y := z");
        two(13, "x := 1", "y := x");
        two(13, "y := x", "x := 1");
        two(13, "x := 1", "x := 1");
        two(13, "c[0] ? x", "y := x");
        two(13, "t ? x", "y := x");
        two(0, "t ? x", "t ? y");
        two(13, "x := 1", "c[0] ! x");
        two(13, "x := 1", "c[x] ! 1");
        two(13, "x := 1", "v[x] := 1");
        two(13, "x := 1", "t ? AFTER x");
        two(13, "x := 1", "y := v[x]");
        two(13, "v := v", "v[7] := 1");
        two(0, "v[6] := 1", "v[7] := 1");
        two(13, "v[7] := 1", "y := v[7]");
        two(0, "y := v[7]", "x := v[7]");
    }

    /** "14 A channel that is written to in two. 15 One that is read from in two." */
    private static void writtenAndRead() {
        two(0, "c[0] ! 1", "c[0] ? x");
        two(14, "c[0] ! 1", "c[0] ! 1");
        two(15, "c[0] ? x", "c[0] ? y");
        two(0, "c[0] ! 1", "c[1] ! 1");
        two(14, "c[0] ! 1", "c[y] ! 1");
        two(15, "c[z] ? x", "c[3] ? y");
        two(14, "screen ! 'a'", "screen ! 'b'");
        two(15, "keyboard ? x", "keyboard ? y");
        two(0, "screen ! 'a'", "keyboard ? y");
        reads(15, 7, "CHAN OF INT c:", "INT x, y:", "PAR", "  c ? x", "  SEQ", "    ALT", "      c ? y", "        SKIP");
        // Also in a GUARD that is FALSE.
        reads(15, 6, "CHAN OF INT c:", "INT x, y:", "PAR", "  c ? x", "  ALT", "    FALSE & c ? y", "      SKIP");
    }

    /** "All else is USING, but SIZE, and what stands behind IS (no VAL; its index is used)." */
    private static void sizeAndIs() {
        two(0, "v[0] := 1", "y := SIZE v");
        two(0, "v := v", "y := SIZE v");
        two(0, "x := 1", "y := SIZE [x, x]");
        reads(0, 0, "INT x:", "PAR", "  x := 1", "  INT y IS x:", "  SKIP");
        reads(13, 5, "INT x:", "PAR", "  x := 1", "  INT y IS x:", "  y := 1");
        reads(0, 0, "INT x:", "[3] INT v:", "PAR", "  v[0] := 1", "  INT y IS v[x]:", "  SKIP");
        reads(13, 5, "INT x:", "[3] INT v:", "PAR", "  x := 1", "  INT y IS v[x]:", "  SKIP");
        reads(13, 4, "INT x:", "PAR", "  x := 1", "  VAL INT y IS x:", "  SKIP");
        reads(13, 4, "[3] INT x:", "PAR", "  x[0] := 1", "  VAL [] INT y IS x:", "  SKIP");
        reads(0, 0, "[3] INT x:", "PAR", "  x[0] := 1", "  [] INT y IS x:", "  y[1] := 1");
    }

    /** "(within a PROC that is called there, or a FUNCTION: the line of the call)". */
    private static void linesOfCalls() {
        String[] ahead = {"INT x, y:", "PROC sets()", "  x := 1", ":", "PROC both()", "  SEQ", "    SKIP", "    sets()",
                ":",
            "INT FUNCTION f() IS x:", "INT FUNCTION g() IS f() + 1:", "PAR"};
        reads(13, 14, Trial.with(ahead, "  sets()", "  sets()"));
        reads(13, 14, Trial.with(ahead, "  x := 1", "  both()"));
        reads(13, 14, Trial.with(ahead, "  both()", "  y := x"));
        reads(13, 14, Trial.with(ahead, "  x := 1", "  y := f()"));
        reads(13, 14, Trial.with(ahead, "  y := g()", "  both()"));
        reads(13, 15, Trial.with(ahead, "  x := 1", "  SEQ", "    y := g()"));
        reads(0, 0, Trial.with(ahead, "  y := g()", "  VAL INT z IS f():", "  SKIP"));
        // A PROC that stands in a branch counts where it is called, there alone.
        reads(0, 0, Trial.with(ahead, "  x := 1", "  PROC p()", "    x := 2", "  :", "  SKIP"));
        reads(13, 17, Trial.with(ahead, "  x := 1", "  PROC p()", "    x := 2", "  :", "  p()"));
        // Within a PROC its own PARs are looked at, called or not.
        reads(13, 5, "PROC p()", "  INT a:", "  PAR", "    a := 1", "    a := 2", ":", "SKIP");
    }

    /** "(a FORMAL that it does not use is not used)". */
    private static void formalsNotUsed() {
        String[] ahead = {"INT x:", "[3] INT v:", "CHAN OF INT c:", "PROC none(INT a, [] INT b, CHAN OF INT d)",
                "  SKIP", ":",
            "PROC size(INT a, [] INT b, CHAN OF INT d)", "  a := SIZE b", ":", "PROC takes(INT a)", "  INT b:",
                    "  b := a",
            ":", "PROC gives(INT a)", "  a := 1", ":", "PROC tells(CHAN OF INT a)", "  a ! 1", ":",
            "PROC hears(CHAN OF INT a)", "  INT b:", "  a ? b", ":", "INT y:", "PAR"};
        reads(0, 0, Trial.with(ahead, "  x := 1", "  none(x, v, c)"));
        reads(0, 0, Trial.with(ahead, "  v[0] := 1", "  none(x, v, c)"));
        reads(0, 0, Trial.with(ahead, "  c ! 1", "  none(x, v, c)"));
        reads(0, 0, Trial.with(ahead, "  v[0] := 1", "  size(x, v, c)"));
        reads(13, 27, Trial.with(ahead, "  x := 1", "  size(x, v, c)"));
        reads(0, 0, Trial.with(ahead, "  takes(x)", "  takes(x)"));
        reads(13, 27, Trial.with(ahead, "  takes(x)", "  gives(x)"));
        reads(13, 27, Trial.with(ahead, "  gives(x)", "  takes(x)"));
        reads(0, 0, Trial.with(ahead, "  tells(c)", "  hears(c)"));
        reads(14, 27, Trial.with(ahead, "  tells(c)", "  tells(c)"));
        reads(15, 27, Trial.with(ahead, "  hears(c)", "  hears(c)"));
        reads(0, 0, Trial.with(ahead, "  gives(v[0])", "  gives(v[1])"));
        reads(13, 27, Trial.with(ahead, "  gives(v[0])", "  gives(v[y])"));
    }

    /** "A PROC, or FUNCTION, uses its FORMALs, and what is outside, as its text does, all arrays as a whole". */
    private static void arraysAsAWhole() {
        String[] ahead = {"[4] INT v:", "[4] CHAN OF INT c:", "PROC one()", "  v[0] := 1", ":", "PROC two([] INT a)",
            "  a[0] := 1", ":", "PROC tell()", "  c[0] ! 1", ":", "PROC tellOne([] CHAN OF INT a)", "  a[0] ! 1", ":",
            "INT FUNCTION f() IS v[0]:", "INT x:", "PAR"};
        reads(13, 19, Trial.with(ahead, "  one()", "  v[3] := 1"));
        reads(13, 19, Trial.with(ahead, "  two(v)", "  v[3] := 1"));
        reads(13, 19, Trial.with(ahead, "  v[3] := 1", "  x := f()"));
        reads(14, 19, Trial.with(ahead, "  tell()", "  c[3] ! 1"));
        reads(14, 19, Trial.with(ahead, "  tellOne(c)", "  c[3] ! 1"));
        reads(0, 0, Trial.with(ahead, "  tell()", "  c[3] ? x"));
        // In a PAR of its own elements are told apart.
        reads(0, 0, "PROC p([] INT a)", "  PAR", "    a[0] := 1", "    a[1] := 1", ":", "SKIP");
        reads(13, 4, "PROC p([] INT a)", "  PAR", "    a[0] := 1", "    a[0] := 1", ":", "SKIP");
    }

    /** "An abbreviation is the place that it was made of." */
    private static void abbreviatedPlaces() {
        reads(13, 5, "INT x:", "INT y IS x:", "PAR", "  x := 1", "  y := 1");
        reads(13, 6, "INT x:", "INT y IS x:", "INT z IS y:", "PAR", "  y := 1", "  z := 1");
        reads(0, 0, "[3] INT v:", "INT y IS v[1]:", "PAR", "  v[0] := 1", "  y := 1");
        reads(13, 5, "[3] INT v:", "INT y IS v[1]:", "PAR", "  v[1] := 1", "  y := 1");
        reads(13, 6, "[3] INT v:", "[] INT w IS v:", "INT y IS w[1]:", "PAR", "  v[1] := 1", "  y := 1");
        reads(0, 0, "[3] INT v:", "[] INT w IS v:", "INT y IS w[1]:", "PAR", "  w[2] := 1", "  y := 1");
        reads(13, 6, "[3] INT v:", "INT i:", "INT y IS v[i]:", "PAR", "  v[1] := 1", "  y := 1");
        reads(14, 5, "[2] CHAN OF INT c:", "CHAN OF INT d IS c[1]:", "PAR", "  d ! 1", "  c[1] ! 1");
        reads(0, 0, "[4] INT v:", "PAR i = 0 FOR 4", "  INT y IS v[i]:", "  y := i");
        reads(13, 4, "[4] INT v:", "PAR i = 0 FOR 4", "  INT y IS v[i / 2]:", "  y := i");
    }

    /** "(with a REPLICATOR: one for each value)". */
    private static void oneForEachValue() {
        reads(0, 0, "INT x:", "PAR i = 0 FOR 0", "  x := 1");
        reads(0, 0, "INT x:", "PAR i = 0 FOR 1", "  x := 1");
        reads(13, 3, "INT x:", "PAR i = 0 FOR 2", "  x := 1");
        reads(0, 0, "INT x:", "PAR i = 0 FOR 64", "  VAL INT y IS x:", "  SKIP");
        reads(0, 0, "[64] INT v:", "PAR i = 0 FOR 64", "  v[i] := 1");
        reads(13, 3, "[64] INT v:", "PAR i = 0 FOR 64", "  v[63 - (i / 2)] := 1");
        reads(13, 3, "[64] INT v:", "PAR i = 0 FOR 64", "  v[i \\ 63] := 1");
        reads(0, 0, "[64] INT v:", "PAR i = 0 FOR 63", "  v[i \\ 63] := 1");
        reads(14, 3, "CHAN OF INT c:", "PAR i = 0 FOR 2", "  c ! i");
        reads(15, 4, "CHAN OF INT c:", "PAR i = 0 FOR 2", "  INT x:", "  c ? x");
        reads(0, 0, "[65] CHAN OF INT c:", "PAR i = 0 FOR 64", "  INT x:", "  SEQ", "    c[i] ? x", "    c[i + 1] ! x");
    }

    /** "WEIGHT at most 1,000 (its count times those of all REPLICATORS around it ..". */
    private static void weights() {
        String[] one = {"  PAR", "    v[i /\\ 1] := 1", "    v[(i /\\ 1) + 2] := 1"};
        reads(0, 0, Trial.with(new String[] {"[4] INT v:", "SEQ i = 0 FOR 1000"}, one));
        reads(13, 5, Trial.with(new String[] {"[4] INT v:", "SEQ i = 0 FOR 1001"}, one));
        reads(13, 5, Trial.with(new String[] {"[4] INT v:", "SEQ i = 0 FOR MOSTPOS INT"}, one));
        String[] two = {"    PAR", "      v[i] := 1", "      v[i + 100] := 1"};
        // 40 times 25, or 500 times 2, are 1,000.
        reads(0, 0, Trial.with(new String[] {"[200] INT v:", "SEQ j = 0 FOR 40", "  SEQ i = 0 FOR 25"}, two));
        reads(13, 6, Trial.with(new String[] {"[200] INT v:", "SEQ j = 0 FOR 40", "  SEQ i = 0 FOR 26"}, two));
        reads(13, 6, Trial.with(new String[] {"[200] INT v:", "SEQ j = 0 FOR 41", "  SEQ i = 0 FOR 25"}, two));
        reads(0, 0, Trial.with(new String[] {"[200] INT v:", "SEQ j = 0 FOR 500", "  SEQ i = 0 FOR 2"}, two));
        reads(13, 6, Trial.with(new String[] {"[200] INT v:", "SEQ j = 0 FOR 501", "  SEQ i = 0 FOR 2"}, two));
        // Counts that would wrap when they are multiplied are too much, all the same.
        reads(13, 6, Trial.with(new String[] {"[200] INT v:", "SEQ j = 0 FOR 65536", "  SEQ i = 0 FOR 65536"}, two));
    }

    /** ".. whose base and count are CONSTANT and count at least 1)": other REPLICATORS do not count. */
    private static void weightsOfOthers() {
        String[] par = {"    PAR", "      v[i] := 1", "      v[i + 100] := 1"};
        String[] heads = {"SEQ j = 0 FOR 1001", "SEQ j = n FOR 1001", "SEQ j = 0 FOR n", "SEQ j = 0 FOR 0",
            "SEQ j = 0 FOR -1", "SEQ j = 0 FOR 1000", "SEQ j = 0 FOR 1"};
        int[] faults = {13, 0, 0, 0, 0, 13, 0};
        for (int k = 0; k < heads.length; k++) {
            reads(faults[k], 7, Trial.with(new String[] {"[200] INT v:", "INT n:", heads[k], "  SEQ i = 0 FOR 2"}, par));
        }
        // A name whose own WEIGHT is too much is not KNOWN; one around it may be.
        reads(0, 0, "[200] INT v:", "PAR i = 0 FOR 64", "  SEQ j = 0 FOR 1000", "    v[i] := 1");
        reads(13, 4, "[200] INT v:", "PAR i = 0 FOR 64", "  SEQ j = 0 FOR 1000", "    v[i + (j * 0)] := 1");
        reads(13, 4, "[200] INT v:", "SEQ j = 0 FOR 1000", "  PAR i = 0 FOR 2", "    v[i] := 1");
        reads(0, 0, "[200] INT v:", "SEQ j = 0 FOR 500", "  PAR i = 0 FOR 2", "    v[i] := 1");
        // An ALT's REPLICATOR is one, too.
        reads(0, 0, "[200] INT v:", "ALT j = 0 FOR 50", "  SKIP", "    PAR i = 0 FOR 20", "      v[i] := 1");
        reads(13, 5, "[200] INT v:", "ALT j = 0 FOR 50", "  SKIP", "    PAR i = 0 FOR 21", "      v[i] := 1");
        // What stands beside does not count.
        reads(0, 0, "[200] INT v:", "SEQ", "  SEQ j = 0 FOR 1000", "    SKIP", "  PAR i = 0 FOR 64", "    v[i] := 1");
    }

    /** "also around its PROC". */
    private static void weightsAroundProcs() {
        String[] proc = {"    PROC p()", "      PAR i = 0 FOR 2", "        v[i] := 1", "    :", "    SKIP"};
        reads(0, 0, Trial.with(new String[] {"[200] INT v:", "SEQ", "  SEQ j = 0 FOR 500"}, proc));
        reads(13, 6, Trial.with(new String[] {"[200] INT v:", "SEQ", "  SEQ j = 0 FOR 501"}, proc));
        // Where it is called does not count.
        reads(0, 0, "[200] INT v:", "PROC p()", "  PAR i = 0 FOR 2", "    v[i] := 1", ":", "SEQ j = 0 FOR 1000", "  p()");
    }

    /** "names of REPLICATORS .. whose base and count are CONSTANT, count at least 1". */
    private static void countsOfKnown() {
        String[] par = {"  PAR", "    v[i /\\ 1] := 1", "    v[(i /\\ 1) + 2] := 1"};
        reads(0, 0, Trial.with(new String[] {"[9] INT v:", "SEQ i = 0 FOR 1"}, par));
        reads(13, 5, Trial.with(new String[] {"[9] INT v:", "SEQ i = 0 FOR 0"}, par));
        reads(13, 5, Trial.with(new String[] {"[9] INT v:", "SEQ i = 0 FOR -1"}, par));
        reads(13, 6, Trial.with(new String[] {"[9] INT v:", "INT n:", "SEQ i = 0 FOR n"}, par));
        reads(13, 6, Trial.with(new String[] {"[9] INT v:", "INT n:", "SEQ i = n FOR 2"}, par));
        reads(0, 0, Trial.with(new String[] {"[9] INT v:", "VAL INT n IS 2:", "SEQ i = n FOR n"}, par));
        // A FORMAL with VAL, a variable, a FUNCTION, or an element is not KNOWN.
        reads(13, 4, "PROC p([] INT v, VAL INT n)", "  PAR", "    v[n] := 1", "    v[n + 1] := 1", ":", "SKIP");
        reads(13, 5, "[9] INT v:", "INT FUNCTION f() IS 1:", "PAR", "  v[f()] := 1", "  v[2] := 1");
        reads(13, 5, "[9] INT v:", "VAL [] INT w IS [1, 2]:", "PAR", "  v[w[0]] := 1", "  v[2] := 1");
        reads(0, 0, "[9] INT v:", "VAL [] INT w IS [1, 2]:", "PAR", "  v[SIZE w] := 1", "  v[3] := 1");
    }

    /** "but those that would be a FAULT". */
    private static void valuesThatAreFaults() {
        // 6 / i has 6 and 3: for 0 it would be FAULT 2.
        reads(0, 0, "[9] INT v:", "SEQ i = 0 FOR 3", "  PAR", "    v[6 / i] := 1", "    v[0] := 1");
        reads(13, 5, "[9] INT v:", "SEQ i = 0 FOR 3", "  PAR", "    v[6 / i] := 1", "    v[3] := 1");
        reads(0, 0, "[9] INT v:", "PAR i = 0 FOR 2", "  v[2 / i] := 1");
        reads(0, 0, "[9] INT v:", "PAR i = MOSTPOS INT FOR 1", "  v[i + 1] := 1");
        reads(0, 0, "[9] INT v:", "PAR i = 32 FOR 3", "  v[8 >> i] := 1");
        reads(13, 3, "[9] INT v:", "PAR i = 31 FOR 3", "  v[8 >> i] := 1");
        reads(0, 0, "[9] INT v:", "PAR i = 1 FOR 3", "  v[INT (BOOL i)] := 1");
        reads(13, 3, "[9] INT v:", "PAR i = 0 FOR 3", "  v[INT (BOOL (i /\\ 1))] := 1");
    }

    /** "or no index (of an array without a number: not 0 .. 199)". */
    private static void valuesThatAreNoIndex() {
        reads(0, 0, "[3] INT v:", "PAR i = 2 FOR 5", "  v[i] := 1");
        reads(0, 0, "[3] INT v:", "PAR", "  SEQ i = 3 FOR 5", "    v[i] := 1", "  v[2] := 1");
        reads(13, 5, "[3] INT v:", "PAR", "  SEQ i = 2 FOR 5", "    v[i] := 1", "  v[2] := 1");
        reads(0, 0, "[3] INT v:", "PAR", "  SEQ i = -5 FOR 5", "    v[i] := 1", "  v[0] := 1");
        reads(13, 5, "[3] INT v:", "PAR", "  SEQ i = -5 FOR 6", "    v[i] := 1", "  v[0] := 1");
        reads(0, 0, "PROC p([] INT v)", "  PAR", "    v[200] := 1", "    v[200] := 1", ":", "SKIP");
        reads(13, 4, "PROC p([] INT v)", "  PAR", "    v[199] := 1", "    v[199] := 1", ":", "SKIP");
        reads(13, 4, "PROC p([] INT v)", "  PAR", "    v[0] := 1", "    v[0] := 1", ":", "SKIP");
        reads(0, 0, "PROC p([] INT v)", "  PAR i = 199 FOR 3", "    v[i \\/ 200] := 1", ":", "SKIP");
        reads(14, 4, "PROC p([] CHAN OF INT c)", "  PAR", "    c[199] ! 1", "    c[199] ! 1", ":", "SKIP");
        reads(0, 0, "PROC p([] CHAN OF INT c)", "  PAR", "    c[200] ! 1", "    c[200] ! 1", ":", "SKIP");
        // As a whole it has all of them.
        reads(13, 4, "PROC p([] INT v, VAL [] INT w)", "  PAR", "    v := w", "    v[199] := 1", ":", "SKIP");
        reads(0, 0, "PROC p([] INT v, VAL [] INT w)", "  PAR", "    v := w", "    v[200] := 1", ":", "SKIP");
        // The same for two parameters.
        reads(12, 5, "PROC q(INT a, b)", "  SKIP", ":", "PROC p([] INT v)", "  q(v[199], v[199])", ":", "SKIP");
        reads(0, 0, "PROC q(INT a, b)", "  SKIP", ":", "PROC p([] INT v)", "  q(v[200], v[200])", ":", "SKIP");
    }

    /** "(base to base + count - 1, wrapping; of the PAR's own REPLICATOR the branch's)". */
    private static void wrappingValues() {
        // MOSTPOS INT >> 31 is 0, MOSTNEG INT >> 31 is 1.
        reads(0, 0, "[2] INT v:", "PAR i = MOSTPOS INT FOR 2", "  v[i >> 31] := 1");
        reads(13, 3, "[2] INT v:", "PAR i = MOSTPOS INT FOR 3", "  v[i >> 31] := 1");
        reads(13, 5, "[2] INT v:", "SEQ i = MOSTPOS INT FOR 2", "  PAR", "    v[i >> 31] := 1", "    v[1] := 1");
        reads(0, 0, "[2] INT v:", "SEQ i = MOSTPOS INT FOR 1", "  PAR", "    v[i >> 31] := 1", "    v[1] := 1");
        // The last value is base + count - 1.
        reads(0, 0, "[9] INT v:", "SEQ i = 2 FOR 3", "  PAR", "    v[i] := 1", "    v[5] := 1");
        reads(13, 5, "[9] INT v:", "SEQ i = 2 FOR 4", "  PAR", "    v[i] := 1", "    v[5] := 1");
        reads(0, 0, "[9] INT v:", "SEQ i = 2 FOR 4", "  PAR", "    v[i] := 1", "    v[1] := 1");
        reads(13, 5, "[9] INT v:", "SEQ i = 1 FOR 4", "  PAR", "    v[i] := 1", "    v[1] := 1");
    }

    /** "it has all values that these names can have, each by itself". */
    private static void eachByItself() {
        reads(0, 0, "[8] INT v:", "PAR i = 0 FOR 2", "  PAR j = 0 FOR 4", "    v[(i * 4) + j] := 1");
        reads(13, 4, "[8] INT v:", "PAR i = 0 FOR 2", "  PAR j = 0 FOR 4", "    v[(i * 3) + j] := 1");
        // For the inner PAR i has all its values, not one for both branches.
        reads(13, 4, "[8] INT v:", "PAR i = 0 FOR 2", "  PAR j = 0 FOR 2", "    v[i + j] := 1");
        reads(13, 5, "[8] INT v:", "SEQ i = 0 FOR 2", "  PAR", "    v[i] := 1", "    v[i + 1] := 1");
        reads(0, 0, "[8] INT v:", "SEQ i = 0 FOR 2", "  PAR", "    v[i] := 1", "    v[i + 2] := 1");
        // Both names of an index go through all values.
        reads(13, 6, "[9] INT v:", "SEQ i = 0 FOR 3", "  SEQ j = 0 FOR 3", "    PAR", "      v[(i * 3) + j] := 1",
                "      v[8] := 1");
        reads(0, 0, "[9] INT v:", "SEQ i = 0 FOR 3", "  SEQ j = 0 FOR 2", "    PAR", "      v[(i * 3) + j] := 1",
                "      v[8] := 1");
        // A VAL of such is KNOWN.
        reads(0, 0, "[8] INT v:", "PAR i = 0 FOR 4", "  VAL INT a IS i * 2:", "  VAL INT b IS a + 1:", "  SEQ",
                "    v[a] := 1",
                "    v[b] := 1");
        reads(13, 6, "[8] INT v:", "PAR i = 0 FOR 4", "  VAL INT a IS i * 2:", "  VAL INT b IS a + 2:", "  SEQ",
                "    v[a] := 1",
                "    v[b] := 1");
    }

    /** "All else is USING": wherever an E stands, what is in it is used. */
    private static void everyUse() {
        String[] ahead = {"INT x, y, z:", "[4] INT v:", "[4] CHAN OF INT c:", "PROTOCOL m IS INT; [2] INT:",
                "CHAN OF m d:", "TIMER t:",
            "BOOL b:", "INT FUNCTION f(VAL INT a) IS a:", "PROC p(VAL INT a, VAL [] INT e)", "  SKIP", ":",
                    "PROC q(INT a)", "  SKIP", ":",
            "PAR", "  x := 1"};
        for (String e : new String[] {"x", "(x)", "- x", "~ x", "MINUS x", "x + 1", "1 + x", "INT x", "f(x)",
                "f(1 + x)", "v[x]", "v[f(x)]",
            "INT (x = 1)", "INT (1 < x)", "INT ((1 = 1) AND (x = 1))", "INT ((x = 1) OR (1 = 1))", "INT (NOT (x = 1))",
                    "x AFTER 1"}) {
            boolean isTruth = e.contains("AFTER");
            reads(13, 17, Trial.with(ahead, "  " + (isTruth ? "b" : "y") + " := " + e));
        }
        String[] acts = {"v[x] := 1", "v := [1, 2, x, 4]", "y, z := 1, x", "c[x] ! 1", "c[x] ? y", "c[0] ! x",
                "c[0] ? v[x]", "d ! 1; [2, x]",
            "d ! x; [1, 2]", "t ? AFTER x", "t ? v[x]", "p(x, [1])", "p(1, [x])", "p(1, [1, x])", "q(v[x])",
                    "WHILE x = 1", "CASE x",
            "SEQ i = x FOR 1", "SEQ i = 0 FOR x", "VAL INT a IS x:", "VAL [] INT a IS [1, x]:", "INT a IS v[x]:",
                    "CHAN OF INT a IS c[x]:"};
        for (String act : acts) {
            boolean isLoop = act.startsWith("WHILE") || act.startsWith("SEQ");
            String behind = isLoop ? "    SKIP" : act.endsWith(":") ? "  SKIP" : "";
            reads(13, 17, Trial.with(ahead, "  " + act, behind));
        }
        reads(13, 18, Trial.with(ahead, "  IF", "    x = 1", "      SKIP"));
        reads(13, 20, Trial.with(ahead, "  IF", "    FALSE", "      SKIP", "    x = 1", "      SKIP"));
        reads(13, 18, Trial.with(ahead, "  ALT", "    x = 1 & SKIP", "      SKIP"));
        reads(13, 18, Trial.with(ahead, "  ALT", "    c[x] ? y", "      SKIP"));
        reads(13, 18, Trial.with(ahead, "  ALT", "    c[0] ? v[x]", "      SKIP"));
        reads(13, 18, Trial.with(ahead, "  ALT", "    c[0] ? x", "      SKIP"));
        reads(13, 18, Trial.with(ahead, "  ALT", "    t ? AFTER x", "      SKIP"));
        reads(13, 18, Trial.with(ahead, "  ALT", "    t ? x", "      SKIP"));
    }

    /** The same in every PROCESS that stands within another one. */
    private static void usesWithinBodies() {
        String[] ahead = {"INT x, y:", "CHAN OF INT c:", "PROTOCOL m", "  CASE", "    g; INT", "    h", ":",
                "CHAN OF m d:", "PAR", "  x := 1"};
        reads(13, 12, Trial.with(ahead, "  SEQ", "    y := x"));
        reads(13, 12, Trial.with(ahead, "  SEQ i = 0 FOR 2", "    y := x"));
        reads(13, 12, Trial.with(ahead, "  WHILE y = 0", "    y := x"));
        reads(13, 13, Trial.with(ahead, "  IF", "    y = 0", "      y := x"));
        reads(13, 13, Trial.with(ahead, "  CASE y", "    0", "      y := x"));
        reads(13, 15, Trial.with(ahead, "  CASE y", "    0", "      SKIP", "    ELSE", "      y := x"));
        reads(13, 13, Trial.with(ahead, "  ALT", "    SKIP", "      y := x"));
        reads(13, 13, Trial.with(ahead, "  ALT i = 0 FOR 2", "    SKIP", "      y := x"));
        reads(13, 12, Trial.with(ahead, "  PAR", "    y := x"));
        reads(13, 12, Trial.with(ahead, "  PAR i = 0 FOR 1", "    y := x"));
        reads(13, 13, Trial.with(ahead, "  d ? CASE", "    g; y", "      y := x"));
        reads(13, 12, Trial.with(ahead, "  d ? CASE", "    g; x", "      SKIP"));
        reads(13, 14, Trial.with(ahead, "  d ? CASE", "    h", "      SKIP", "    g; x", "      SKIP"));
        reads(13, 14, Trial.with(ahead, "  ALT", "    d ? CASE", "      g; y", "        y := x"));
        reads(13, 13, Trial.with(ahead, "  ALT", "    d ? CASE", "      g; x", "        SKIP"));
        reads(15, 14, Trial.with(ahead, "  d ? CASE", "    h", "      SKIP", "  d ? CASE", "    h", "      SKIP"));
        reads(14, 12, Trial.with(ahead, "  d ! h", "  d ! h"));
    }

    /** What a PROC does with a FORMAL, or with what is outside, also through PROCs that it calls. */
    private static void usesThroughProcs() {
        String[] ahead = {"INT x, y:", "PROC p(INT a)", "  PROC q()", "    a := 1", "  :", "  q()", ":",
                "PROC r(INT a)", "  p(a)", ":",
            "PROC s(INT a)", "  PROC q(INT b)", "    b := a", "  :", "  q(y)", ":", "PROC u(INT a)", "  PROC q()",
                    "    a := 1", "  :", "  SKIP", ":",
            "PAR"};
        reads(13, 25, Trial.with(ahead, "  x := 1", "  p(x)"));
        reads(13, 25, Trial.with(ahead, "  x := 1", "  r(x)"));
        reads(13, 25, Trial.with(ahead, "  r(x)", "  x := 1"));
        reads(13, 25, Trial.with(ahead, "  x := 1", "  s(x)"));
        reads(13, 25, Trial.with(ahead, "  s(x)", "  y := 1"));
        reads(0, 0, Trial.with(ahead, "  x := 1", "  u(x)"));
        // Two PROCs in one, of which the first has an ACT: a FUNCTION that calls it has it, too.
        reads(11, 15, "CHAN OF INT c:", "PROC p()", "  PROC a()", "    c ! 1", "  :", "  PROC b()", "    SKIP", "  :",
                "  a()", ":",
                "INT FUNCTION f()", "  VALOF", "    SEQ", "      SKIP", "      p()", "    RESULT 1", ":", "SKIP");
        // Several places of one PROC: each array as a whole, each variable as one.
        String[] several = {"INT x, y:", "[9] INT v:", "[5] INT w:", "PROC p()", "  v[0], x, w[0], y := 1, 2, 3, 4",
                ":", "PAR", "  p()"};
        for (String act : new String[] {"v[8] := 1", "x := 1", "w[4] := 1", "y := 1"}) {
            reads(13, 9, Trial.with(several, "  " + act));
        }
    }

    /** Any two of eight parameters, with VALs between them. */
    private static void severalParameters() {
        String[] ahead = {"PROC p(VAL INT a, INT b, VAL INT c, INT d, e, VAL INT f, g, INT h)", "  SKIP", ":",
                "INT s, t, u, v, w:"};
        reads(0, 0, Trial.with(ahead, "p(s, s, s, t, u, s, t, v)"));
        reads(12, 5, Trial.with(ahead, "p(w, s, w, s, u, w, w, v)"));
        reads(12, 5, Trial.with(ahead, "p(w, s, w, t, s, w, w, v)"));
        reads(12, 5, Trial.with(ahead, "p(w, s, w, t, u, w, w, s)"));
        reads(12, 5, Trial.with(ahead, "p(w, s, w, t, t, w, w, v)"));
        reads(12, 5, Trial.with(ahead, "p(w, s, w, t, u, w, w, t)"));
        reads(12, 5, Trial.with(ahead, "p(w, s, w, t, u, w, w, u)"));
        String[] outside = {"INT s, t, u, v, w:", "PROC p(VAL INT a, INT b, VAL INT c, INT d)", "  w := 1", ":"};
        reads(0, 0, Trial.with(outside, "p(w, s, w, t)"));
        reads(12, 5, Trial.with(outside, "p(w, w, w, t)"));
        reads(12, 5, Trial.with(outside, "p(w, s, w, w)"));
    }

    /** "KNOWN: CONSTANT but that names of REPLICATORS may be in it": all operations. */
    private static void knownForms() {
        // i is 0, 1, 2; the index has the values that stand behind it, of 0 .. 8.
        String[][] forms = {{"i", "012"}, {"(i)", "012"}, {"i + 3", "345"}, {"3 - i", "123"}, {"i * 2", "024"},
                {"i / 2", "01"}, {"i \\ 2", "01"},
            {"- (i - 2)", "012"}, {"MINUS (i - 2)", "012"}, {"~ (i - 4)", "123"}, {"INT (BYTE i)", "012"},
                    {"INT (i = 1)", "01"},
            {"INT ((i = 1) OR (i = 2))", "01"}, {"INT ((i = 1) OR (i = 3) OR (i = 4))", "01"},
                    {"INT ((i = 1) OR (i < 3))", "1"},
            {"INT ((i = 1) AND (i = 2))", "0"}, {"INT ((i = 1) AND (i < 2) AND (i > 0))", "01"},
                    {"INT ((i < 3) AND (i > (-1)))", "1"},
            {"INT (NOT (i = 1))", "01"}, {"i << 1", "024"}, {"i /\\ 1", "01"}, {"i \\/ 4", "456"}, {"i >< 1", "013"},
                    {"(SIZE v) - (i + 1)", "678"},
            {"INT (i AFTER 1)", "01"}, {"5 + (i - 3)", "234"}, {"(INT (i - 3)) + 5", "234"},
                    {"(INT (BYTE (i - 3))) + 5", ""}, {"(~ (i - 3)) + (i - 1)", "1"}, {"4 / i", "24"},
                    {"- (i PLUS (MOSTPOS INT))", ""}, {"i TIMES i", "014"},
            {"INT (BYTE (i * 255))", "0"}, {"INT (BOOL (BYTE i))", "01"}, {"(n * 2) + i", "678"}};
        for (String[] form : forms) {
            for (int k = 0; k <= 8; k++) {
                boolean isCommon = form[1].indexOf('0' + k) >= 0;
                reads(isCommon ? 13 : 0, 6, "[9] INT v:", "VAL INT n IS 3:", "SEQ i = 0 FOR 3", "  PAR", "    v["
                        + form[0] + "] := 1",
                        "    v[" + k + "] := 1");
            }
        }
        // A FAULT within an operation is one of the whole: its value is none.
        String[] faults = {"- (i + 1)", "~ ((i + 1) - 1)", "INT (BYTE (i + 1))", "(i + 1) TIMES 0", "0 TIMES (i + 1)",
            "INT ((i = 1) AND ((i + 1) = 1))", "INT (((i + 1) = 1) AND (i = 1))"};
        for (String e : faults) {
            reads(0, 0, "[9] INT v:", "SEQ i = MOSTPOS INT FOR 1", "  PAR", "    v[" + e + "] := 1", "    v[0] := 1");
        }
        // Two names: all pairs of their values.
        for (int k = 0; k <= 8; k++) {
            reads(k % 3 == 2 ? 0 : 13, 6, "[9] INT v:", "SEQ i = 0 FOR 3", "  SEQ j = 0 FOR 2", "    PAR",
                    "      v[(i * 3) + j] := 1",
                    "      v[" + k + "] := 1");
            reads(k % 3 == 2 ? 0 : 13, 6, "[9] INT v:", "SEQ j = 0 FOR 2", "  SEQ i = 0 FOR 3", "    PAR",
                    "      v[j + (i * 3)] := 1",
                    "      v[" + k + "] := 1");
        }
        // VALs of VALs, in any order in which they are met.
        String[] vals = {"[16] INT v:", "PAR i = 0 FOR 4", "  VAL INT a IS i * 2:", "  VAL INT b IS a + 1:",
                "  VAL INT c IS b + a:"};
        reads(0, 0, Trial.with(vals, "  v[b] := 1"));
        reads(0, 0, Trial.with(vals, "  v[c] := 1"));
        reads(0, 0, Trial.with(vals, "  v[c - b] := 1"));
        reads(0, 0, Trial.with(vals, "  v[b + (a / 2)] := 1"));
        reads(13, 6, Trial.with(vals, "  v[c - (b + a)] := 1"));
        reads(13, 6, Trial.with(vals, "  v[b / 4] := 1"));
    }

    /** Many names of REPLICATORS beside one another: each index has its own. */
    private static void manyKnown() {
        String[] ahead = {"[200] INT v, w:", "SEQ", "  SEQ i = 0 FOR 100", "    PAR", "      v[i] := 1",
                "      v[i + 100] := 1",
            "  SEQ j = 0 FOR 100", "    PAR", "      w[j] := 1", "      w[j + 100] := 1", "  SEQ k = 0 FOR 100",
                    "    PAR", "      v[k] := 1"};
        reads(0, 0, Trial.with(ahead, "      v[100] := 1"));
        reads(13, 14, Trial.with(ahead, "      v[99] := 1"));
        // The thousandth value counts, too.
        reads(13, 5, "[4] INT v:", "SEQ i = 0 FOR 1000", "  PAR", "    v[i / 999] := 1", "    v[1] := 1");
        reads(0, 0, "[4] INT v:", "SEQ i = 0 FOR 1000", "  PAR", "    v[i / 1000] := 1", "    v[1] := 1");
        // An index that is none in both branches is none in common.
        reads(0, 0, "[3] INT v:", "PAR", "  SEQ i = 3 FOR 1", "    v[i] := 1", "  SEQ i = 3 FOR 1", "    v[i] := 1");
        // WEIGHTS of what stands ahead are over.
        reads(0, 0, "[64] INT v:", "SEQ", "  ALT j = 0 FOR 64", "    SKIP", "      SKIP", "  PAR i = 0 FOR 64",
                "    v[i] := 1");
        reads(0, 0, "[64] INT v:", "SEQ", "  PAR j = 0 FOR 64", "    SKIP", "  SEQ j = 0 FOR 64", "    SKIP",
                "  PAR i = 0 FOR 64", "    v[i] := 1");
    }

    /** The text of a PROC that stands in a branch is passed over, also in a branch ahead. */
    private static void procsThatStandAhead() {
        reads(0, 0, "INT x, y:", "PAR", "  PROC p()", "    x := 1", "  :", "  y := 1", "  x := 2");
        reads(13, 7, "INT x, y:", "PAR", "  PROC p()", "    x := 1", "  :", "  p()", "  x := 2");
        reads(13, 7, "INT x, y:", "PAR", "  PROC p()", "    SKIP", "  :", "  x := 1", "  x := 2");
        reads(0, 0, "INT x, y:", "PAR", "  INT FUNCTION f() IS x:", "  y := 1", "  x := 2");
        reads(13, 5, "INT x, y:", "PAR", "  INT FUNCTION f() IS x:", "  y := f()", "  x := 2");
    }

    /** Many PARs with many places each. */
    private static void manyPlaces() {
        StringBuilder names = new StringBuilder("a");
        for (char c = 'b'; c <= 'z'; c++) {
            names.append(",").append(c);
        }
        String[] text = {"INT " + names + ":", "SEQ"};
        for (int k = 0; k < 26; k++) {
            text = Trial.with(text, "  PAR", "    VAL []INT v IS [" + names + "]:", "    SKIP");
        }
        int line = text.length + 3;
        reads(0, 0, Trial.with(text, "  PAR", "    y:=1", "    z:=1"));
        reads(13, line, Trial.with(text, "  PAR", "    z:=1", "    z:=1"));
    }

    /** Each element of the longest array is told apart from all others. */
    private static void allElements() {
        for (int k = 0; k < 200; k++) {
            reads(13, 4, "[200] INT v:", "PAR", "  v[" + k + "] := 1", "  v[" + k + "] := 1");
            reads(0, 0, "[200] INT v:", "PAR", "  v[" + k + "] := 1", "  v[" + (k + 1) % 200 + "] := 1");
            reads(0, 0, "[200] INT v:", "PAR", "  v[" + k + "] := 1", "  v[" + (k + 32) % 200 + "] := 1");
            reads(13, 4, "[200] INT v:", "PAR", "  v[" + k + "] := 1", "  v := v");
        }
    }

    /** "as a whole, all elements": of an array of any number, and of one that has none. */
    private static void allElementsAsAWhole() {
        for (int n = 1; n <= 200; n++) {
            String array = "[" + n + "] INT v:";
            reads(13, 4, array, "PAR", "  v := v", "  v[" + (n - 1) + "] := 1");
            reads(13, 4, array, "PAR", "  v[0] := 1", "  v := v");
            reads(13, 6, "INT x:", array, "SEQ", "  PAR", "    v[x] := 1", "    v[" + (n - 1) + "] := 1");
            reads(13, 4, "PROC p([] INT v)", "  PAR", "    v := v", "    v[" + (n - 1) + "] := 1", ":", "SKIP");
        }
        reads(0, 0, "PROC p([] INT v)", "  PAR", "    v := v", "    v[200] := 1", ":", "SKIP");
    }
}
