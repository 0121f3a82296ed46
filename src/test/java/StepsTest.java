/** Promises 6 and 7, with what the steps do: the order of the seed, values, FAULTs, FUNCTIONs. */
public final class StepsTest {
    public static void main(String[] args) {
        throwing();
        order();
        acts();
        values();
        assignments();
        faults();
        faultLines();
        control();
        rooms();
        functions();
        functionLimits();
        anew();
        Trial.finish("StepsTest");
    }

    private static void throwing() {
        MeetingHouse house = Trial.house("SKIP");
        Trial.due("run(2001), no run", Trial.run(house, 2001), -2);
        Trial.due("run(-1), no run", Trial.run(house, -1), -2);
        Trial.due("run(0), no run", Trial.run(house, 0), -3);
        boolean thrown = false;
        try {
            house.begin(0);
        } catch (IllegalStateException e) {
            thrown = true;
        }
        Trial.due("begin(0) throws", thrown, true);
        Trial.due("count(3)", house.count(3), 4);
        house.read();
        Trial.due("run(1), not begun", Trial.run(house, 1), -3);
        house.begin(0);
        Trial.due("run(2001)", Trial.run(house, 2001), -2);
        Trial.due("run(MIN)", Trial.run(house, Integer.MIN_VALUE), -2);
        Trial.due("count(5)", house.count(5), 0);
        Trial.due("run(0)", Trial.run(house, 0), 0);
        Trial.due("run(2000)", Trial.run(house, 2000), 1);
        Trial.due("run(2000)", Trial.run(house, 2000), 0);
        Trial.feed(house, "x");
        house.read();
        Trial.due("run(1), no program", Trial.run(house, 1), -3);
    }

    /** Three processes write down their numbers; the same is done here with the seed. */
    private static void order() {
        for (int seed : new int[] {0, 1, -1, 77, 123456789, Integer.MIN_VALUE}) {
            MeetingHouse house = Trial.begun(seed, "[3] INT v:", "PAR i = 0 FOR 3", "  SEQ j = 0 FOR 5",
                    "    v[i] := v[i] + 1");
            int s = seed * 1103515245 + 12345;
            // Eleven ACTs each: the SEQ is looked at six times.
            int[] left = {11, 11, 11};
            Trial.run(house, 1);
            for (int step = 0; step < 33; step++) {
                s = s * 1103515245 + 12345;
                int ready = (left[0] > 0 ? 1 : 0) + (left[1] > 0 ? 1 : 0) + (left[2] > 0 ? 1 : 0);
                int k = (s >>> 16) % ready;
                for (int p = 0; p < 3; p++) {
                    if (left[p] > 0 && k-- == 0) {
                        left[p]--;
                    }
                }
                Trial.due("one step", Trial.run(house, 1), 1);
                for (int p = 0; p < 3; p++) {
                    int line = left[p] == 0 ? -1 : left[p] % 2 == 1 ? 3 : 4;
                    Trial.due("seed " + seed + ", step " + step + ", process " + p, house.process(p + 1, 1), line);
                }
            }
            Trial.due("ENDED", house.count(4), 2);
        }
    }

    /** How many STEPS a text has up to its end. */
    private static void steps(int want, String... lines) {
        MeetingHouse house = Trial.begun(3, lines);
        Trial.due("steps of\n" + Trial.lines(lines), Trial.run(house, 2000), want);
    }

    private static void acts() {
        steps(1, "SKIP");
        steps(0, "SEQ");
        steps(1, "PAR");
        steps(1, "INT x:", "x := 1");
        steps(2, "SEQ", "  SKIP", "  SEQ", "    SEQ", "      SKIP");
        steps(2, "IF", "  FALSE", "    SKIP", "  TRUE", "    SKIP");
        steps(2, "CASE 2", "  1", "    SKIP", "  2, 3", "    SKIP");
        steps(1, "WHILE FALSE", "  SKIP");
        steps(7, "INT x:", "WHILE x < 3", "  x := x + 1");
        steps(7, "SEQ i = 0 FOR 3", "  SKIP");
        steps(1, "SEQ i = 0 FOR 0", "  SKIP");
        steps(2, "PROC p()", "  SKIP", ":", "p()");
        steps(1, "PROC p()", "  SEQ", ":", "p()");
        steps(2, "ALT", "  SKIP", "    SKIP");
        steps(1, "ALT", "  SKIP", "    SEQ");
        steps(3, "PAR", "  SKIP", "  SKIP");
        steps(1, "PAR", "  SEQ", "  SEQ");
        steps(4, "CHAN OF INT c:", "INT x:", "PAR", "  c ! 1", "  c ? x", "  SKIP");
        steps(1, "screen ! 'a'");
        steps(1, "TIMER t:", "INT x:", "t ? x");
        steps(1, "TIMER t:", "t ? AFTER (-1)");
        steps(2, "TIMER t:", "t ? AFTER 0");
        steps(4, "SEQ", "  PAR i = 0 FOR 2", "    SKIP", "  SKIP");
    }

    /** The value of an E, with some variables at hand. */
    private static void value(long want, String e) {
        MeetingHouse house = Trial.ran(1, "INT r, zero, one, most, least:", "[3] INT v:", "BOOL t:",
                "SEQ", "  zero, one, most, least := 0, 1, MOSTPOS INT, MOSTNEG INT", "  v := [10, 20, 30]",
                "  t := TRUE", "  r := " + e);
        Trial.due(e, house.cell(0), want);
        Trial.due(e + " is no FAULT", house.count(13), 0);
    }

    /** The FAULT of an E. */
    private static void fault(int want, String e) {
        MeetingHouse house = Trial.ran(1, "INT r, zero, one, most, least:", "[3] INT v:", "BOOL t:",
                "SEQ", "  zero, one, most, least := 0, 1, MOSTPOS INT, MOSTNEG INT", "  v := [10, 20, 30]",
                "  t := TRUE", "  r := " + e);
        Trial.due(e, Trial.stopped(house, 0), 800 + want);
        Trial.due(e + " stands", house.count(4), 3);
    }

    private static void values() {
        value(3, "one + 2");
        value(-2147483647, "- most");
        value(Integer.MIN_VALUE, "MINUS least");
        value(Integer.MIN_VALUE, "most PLUS 1");
        value(Integer.MAX_VALUE, "least MINUS 1");
        value(-2, "most TIMES 2");
        value(-3, "(one - 8) / 2");
        value(-1, "(one - 8) \\ 2");
        value(1, "(one + 6) \\ (-2)");
        value(0, "least \\ (-1)");
        value(8, "(12 * one) /\\ 10");
        value(14, "(12 * one) \\/ 10");
        value(6, "(12 * one) >< 10");
        value(-2, "~ one");
        value(Integer.MIN_VALUE, "one << 31");
        value(0, "one << 32");
        value(1, "one << zero");
        value(1, "least >> 31");
        value(0, "least >> 32");
        value(Integer.MIN_VALUE, "least >> zero");
        value(1, "INT (one < 2)");
        value(1, "INT (most AFTER zero)");
        value(0, "INT (zero AFTER zero)");
        value(1, "INT (least AFTER most)");
        value(0, "INT (least AFTER zero)");
        value(97, "INT 'a'");
        value(200, "INT (BYTE (one * 200))");
        value(1, "INT (BOOL one)");
        value(3, "SIZE v");
        value(20, "v[one]");
        value(30, "v[v[zero] / 5]");
        value(0, "INT (t AND (one = 2))");
        value(1, "INT ((one = 2) OR t OR (one = 3))");
        value(0, "INT (NOT t)");
        value(0x7FFFFFFF, "#7FFFFFFF");
        value(-1, "#FFFFFFFF");
        value(1, "INT ('b' > 'a')");
        value(1, "INT (t <> FALSE)");
    }

    private static void faults() {
        fault(1, "most + 1");
        fault(1, "least - 1");
        fault(1, "most * 2");
        fault(1, "- least");
        fault(1, "least / (-1)");
        fault(2, "one / zero");
        fault(2, "one \\ zero");
        fault(3, "v[zero - 1]");
        fault(3, "v[one + 2]");
        fault(6, "INT (BYTE (one + 255))");
        fault(6, "INT (BYTE (zero - 1))");
        fault(6, "INT (BOOL (one + 1))");
        fault(8, "one << (one + 32)");
        fault(8, "one >> (zero - 1)");
        // All of AND and OR is worked out, from the left to the right.
        fault(2, "INT (t OR (1 = (one / zero)))");
        fault(2, "INT ((zero = 1) AND (1 = (one / zero)))");
        fault(1, "(most + 1) / zero");
        fault(2, "(one / zero) + (most + 1)");
        fault(3, "v[(zero - 1)] + (one / zero)");
    }

    private static void assignments() {
        MeetingHouse house = Trial.ran(1, "INT a, b:", "[2] INT v, w:", "SEQ", "  a, b := 1, 2", "  a, b := b, a",
                "  v, w := [3, 4], [5, 6]",
                "  v, w := w, v", "  v[v[0] - 5], v[1] := 8, 9");
        long[] want = {2, 1, 8, 9, 3, 4};
        for (int i = 0; i < want.length; i++) {
            Trial.due("cell " + i, house.cell(i), want[i]);
        }
        // The indexes ahead are worked out when all E's are; then all get their values in turn.
        MeetingHouse index = Trial.ran(1, "INT i:", "[3] INT v:", "i, v[i], v[0] := 1, 7, 8");
        Trial.due("i", index.cell(0), 1);
        Trial.due("v[0]", index.cell(1), 8);
        MeetingHouse none = Trial.ran(1, "INT i:", "[3] INT v:", "i, v[i - 1] := 1, 7");
        Trial.due("FAULT 3", Trial.stopped(none, 0), 303);
        Trial.due("i is as it was", none.cell(0), 0);
        MeetingHouse longer = Trial.ran(1, "INT i:", "[2] INT v:", "[3] INT w:", "PROC p([] INT a, VAL [] INT b)",
                "  i, a, i := 1, b, 2", ":",
                "p(v, w)");
        Trial.due("FAULT 9", Trial.stopped(longer, 0), 509);
        Trial.due("targets ahead have theirs", longer.cell(0), 1);
    }

    private static void stops(int line, int fault, String... lines) {
        MeetingHouse house = Trial.ran(5, lines);
        Trial.due("FAULT of\n" + Trial.lines(lines), Trial.stopped(house, 0), 100 * line + fault);
        Trial.due("state", house.process(0, 0), 7);
    }

    private static void faultLines() {
        stops(1, 0, "STOP");
        stops(3, 2, "INT x:", "SEQ", "  VAL INT y IS 1 / x:", "  SKIP");
        stops(2, 2, "INT x:", "VAL INT y IS 1 / x:", "SKIP");
        stops(4, 3, "INT x:", "[3] INT v:", "SEQ", "  INT y IS v[x - 1]:", "  SKIP");
        stops(5, 2, "INT x:", "IF", "  x = 1", "    SKIP", "  x = (1 / x)", "    SKIP");
        stops(2, 4, "INT x:", "IF", "  x = 1", "    SKIP");
        stops(1, 4, "IF");
        stops(2, 5, "INT x:", "CASE x", "  1", "    SKIP");
        stops(2, 2, "INT x:", "CASE 1 / x", "  1", "    SKIP");
        stops(1, 5, "CASE 1");
        stops(2, 7, "INT x:", "SEQ i = 0 FOR x - 1", "  SKIP");
        stops(1, 0, "ALT");
        stops(1, 0, "ALT", "  FALSE & SKIP", "    SKIP");
        stops(5, 2, "INT x:", "ALT", "  FALSE & SKIP", "    SKIP", "  x = (1 / x) & SKIP", "    SKIP");
        // 200, three times 1,600 for parameters, and 4,000 for each PROC: the last DECLARATION has no room.
        String twenty = "  [200] INT a, b, c, d, e, f, g, h, i, j, k, l, m, n, o, q, r, s, t, u:";
        String[] text = {"PROC p1()", twenty, "  STOP", ":", "PROC p2()", twenty, "  p1()", ":", "PROC p3()", twenty,
                "  p2()", ":",
            "PROC p4()", twenty, "  p3()", ":", "PROC t1(VAL [] INT a, b, c, d, e, f, g, h)", "  p4()", ":",
            "PROC t2(VAL [] INT a, b, c, d, e, f, g, h)", "  t1(a, a, a, a, a, a, a, a)", ":",
            "PROC t3(VAL [] INT a, b, c, d, e, f, g, h)", "  t2(a, a, a, a, a, a, a, a)", ":", "[200] INT v:",
            "t3(v, v, v, v, v, v, v, v)"};
        stops(2, 10, text);
        Trial.due("what was taken stays taken", Trial.ran(5, text).count(12), 17000);
    }

    private static void control() {
        // A REPLICATOR's base and count are worked out once.
        MeetingHouse house = Trial.ran(1, "INT n, m:", "SEQ", "  n := 3", "  SEQ i = n FOR n", "    n, m := 10, m + i");
        Trial.due("m", house.cell(1), 3 + 4 + 5);
        MeetingHouse wraps = Trial.ran(1, "INT m:", "SEQ i = MOSTPOS INT FOR 2", "  m := i");
        Trial.due("m", wraps.cell(0), Integer.MIN_VALUE);
        MeetingHouse fresh = Trial.ran(1, "[3] INT v:", "SEQ i = 0 FOR 3", "  INT x:", "  SEQ", "    v[i] := x",
                "    x := 5");
        Trial.due("declared variables become 0", fresh.cell(0) + fresh.cell(1) + fresh.cell(2), 0);
        MeetingHouse cases = Trial.ran(1, "[4] INT v:", "SEQ i = 0 FOR 4", "  CASE i", "    0, 2", "      v[i] := 1",
                "    1", "      v[i] := 2",
                "    ELSE", "      v[i] := 3");
        Trial.due("CASE", cases.cell(0) * 1000 + cases.cell(1) * 100 + cases.cell(2) * 10 + cases.cell(3), 1213);
        MeetingHouse bytes = Trial.ran(1, "INT r:", "BYTE b:", "SEQ", "  b := 'x'", "  CASE b", "    'y'",
                "      r := 1", "    'x'",
                "      r := 2");
        Trial.due("CASE of a BYTE", bytes.cell(0), 2);
        MeetingHouse params = Trial.ran(1, "INT r:", "[3] INT v:", "PROC p(INT a, VAL INT b, [] INT c, VAL [] INT d)",
                "  SEQ", "    c[0] := 9",
                "    a := (b + d[0]) + (SIZE c)", ":", "SEQ", "  v[0] := 4", "  p(r, r + 1, v, v)");
        Trial.due("r", params.cell(0), 1 + 4 + 3);
        Trial.due("v[0]", params.cell(1), 9);
        // A PROC has its own names, wherever it is called.
        MeetingHouse scope = Trial.ran(1, "INT x:", "PROC p()", "  x := x + 1", ":", "SEQ", "  INT x:", "  SEQ",
                "    x := 5", "    p()",
                "  p()");
        Trial.due("x", scope.cell(0), 2);
    }

    private static void rooms() {
        // 80 processes may be there; the PAR that would make one more makes none.
        MeetingHouse house = Trial.ran(1, "CHAN OF INT c:", "PAR", "  PAR i = 0 FOR 64", "    STOP",
                "  PAR i = 0 FOR 13", "    STOP");
        Trial.due("80 processes", house.count(6), 80);
        Trial.due("STOPPED", house.count(13), 77);
        MeetingHouse many = Trial.ran(1, "CHAN OF INT c:", "PAR", "  PAR i = 0 FOR 14", "    STOP",
                "  PAR i = 0 FOR 64", "    STOP");
        int first = Trial.stopped(many, 1);
        int second = Trial.stopped(many, 2);
        Trial.due("one has FAULT 10", first == 310 && second == -1 || first == -1 && second == 510, true);
        String[] chain = new String[64 * 3 + 1];
        for (int i = 0; i < 64; i++) {
            chain[3 * i] = "PROC p" + i + "()";
            chain[3 * i + 1] = i == 0 ? "  SKIP" : "  p" + (i - 1) + "()";
            chain[3 * i + 2] = ":";
        }
        chain[192] = "p59()";
        MeetingHouse sixty = Trial.ran(1, chain);
        Trial.due("60 calls", sixty.count(4), 2);
        chain[192] = "p60()";
        MeetingHouse more = Trial.ran(1, chain);
        Trial.due("61 calls", Trial.stopped(more, 0), 510);
        cells();
    }

    private static void cells() {
        // Each branch takes 200 * 30 cells: the fourth one has no room.
        MeetingHouse house = Trial.ran(1, "PROC p()", "  [200] INT a, b, c, d, e, f, g, h, i, j:",
                "  [200] INT k, l, m, n, o, q, r, s, t, u:",
                "  STOP", ":", "PAR i = 0 FOR 6", "  p()");
        Trial.due("cells taken", house.count(12), 20000);
        int tens = 0;
        for (int p = 1; p <= 6; p++) {
            tens += house.process(p, 5) == 10 ? 1 : 0;
        }
        Trial.due("processes without room", tens, 1);
        Trial.due("STOPPED", house.count(13), 6);
        MeetingHouse copies = Trial.ran(1, "[200] INT v:", "PROC p(VAL [] INT a)", "  PROC q(VAL [] INT b)",
                "    STOP", "  :", "  q(a)", ":",
                "p(v)");
        Trial.due("copies are counted", copies.count(12), 600);
    }

    private static void functions() {
        MeetingHouse house = Trial.ran(1, "INT r, g:", "INT FUNCTION twice(VAL INT a) IS a + a:",
                "INT FUNCTION sum(VAL [] INT a)", "  INT s:",
                "  VALOF", "    SEQ i = 0 FOR SIZE a", "      s := s + a[i]", "    RESULT s + g", ":",
                "BOOL FUNCTION even(VAL INT a) IS (a \\ 2) = 0:",
                "SEQ", "  g := 100", "  r := twice(twice(3)) + sum([1, twice(1), 3])", "  IF", "    even(r)",
                "      r := r * 10", "    TRUE",
                "      SKIP");
        Trial.due("r", house.cell(0), 1180);
        Trial.due("steps", house.count(5), 4);
        MeetingHouse line = Trial.ran(1, "INT x:", "INT FUNCTION f(VAL INT a)", "  INT b:", "  VALOF",
                "    b := 1 / a", "    RESULT b", ":", "SEQ",
                "  SKIP", "  x := f(x)");
        Trial.due("the line of what calls it", Trial.stopped(line, 0), 1002);
        MeetingHouse stop = Trial.ran(1, "INT FUNCTION f()", "  VALOF", "    STOP", "    RESULT 1", ":",
                "VAL INT v IS f():", "SKIP");
        Trial.due("STOP in a FUNCTION", Trial.stopped(stop, 0), 600);
        MeetingHouse procs = Trial.ran(1, "INT x:", "INT FUNCTION f(VAL INT a)", "  INT b:", "  VALOF",
                "    PROC add(VAL INT n)", "      b := b + n",
                "    :", "    SEQ", "      add(a)", "      add(a)", "    RESULT b", ":", "x := f(4) + f(5)");
        Trial.due("PROCs in a FUNCTION", procs.cell(0), 18);
        MeetingHouse size = Trial.ran(1, "INT x:", "INT FUNCTION f(VAL INT a) IS 1 / a:", "x := SIZE [f(x), f(x)]");
        Trial.due("nothing behind SIZE is worked out", size.cell(0), 2);
    }

    private static void functionLimits() {
        String[] text = {"INT x:", "INT FUNCTION f(VAL INT n)", "  VALOF", "    SEQ i = 0 FOR n", "      SKIP",
                "    RESULT n", ":", ""};
        // The call, and 2 * n + 1 ACTS within it.
        text[7] = "x := f(49)";
        Trial.due("100", Trial.ran(1, text).cell(0), 49);
        text[7] = "x := f(50)";
        Trial.due("102", Trial.stopped(Trial.ran(1, text), 0), 811);
        text[7] = "x := f(49) + f(0)";
        Trial.due("more than 100", Trial.stopped(Trial.ran(1, text), 0), 811);
        MeetingHouse forever = Trial.ran(1, "INT x:", "INT FUNCTION f()", "  VALOF", "    WHILE TRUE", "      SKIP",
                "    RESULT 1", ":", "x := f()");
        Trial.due("for ever", Trial.stopped(forever, 0), 811);
        String[] deep = new String[24];
        deep[0] = "INT x:";
        deep[1] = "INT FUNCTION f1(VAL INT a) IS a + 1:";
        for (int i = 2; i <= 22; i++) {
            deep[i] = "INT FUNCTION f" + i + "(VAL INT a) IS f" + (i - 1) + "(a) + 1:";
        }
        deep[23] = "x := f20(0)";
        Trial.due("20 deep", Trial.ran(1, deep).cell(0), 20);
        deep[23] = "x := f21(0)";
        Trial.due("within 20 others", Trial.stopped(Trial.ran(1, deep), 0), 2411);
    }

    private static void anew() {
        MeetingHouse house = Trial.begun(4, "INT x:", "SEQ", "  screen ! 'a'", "  x := 3", "  keyboard ? x");
        Trial.run(house, 9);
        house.key(5);
        house.key(6);
        Trial.due("x", house.cell(0), 5);
        Trial.due("INPUT", house.count(11), 1);
        house.begin(4);
        Trial.due("x anew", house.cell(0), 0);
        Trial.due("INPUT anew", house.count(11), 0);
        Trial.due("OUTPUT anew", house.count(10), 0);
        Trial.due("CLOCK anew", house.count(9), 0);
        Trial.due("line", house.process(0, 1), 3);
        Trial.due("run", Trial.run(house, 1), 1);
        Trial.due("line", house.process(0, 1), 4);
        MeetingHouse ended = Trial.begun(4, "SEQ");
        Trial.due("ENDED at once", ended.count(4), 2);
        Trial.due("run", Trial.run(ended, 5), 0);
        MeetingHouse fault = Trial.begun(4, "INT x:", "VAL INT y IS 1 / x:", "SKIP");
        Trial.due("FAULT in begin()", Trial.stopped(fault, 0), 202);
        Trial.due("STANDS", fault.count(4), 3);
    }
}
