/** The boundary cases of section 3, RUNS: steps, values, FAULTs of running, ROOM, FUNCTIONs, and how a run is. */
public final class RunBoundsTest {
    private static final int LEAST = Integer.MIN_VALUE;
    private static final int MOST = Integer.MAX_VALUE;

    public static void main(String[] args) {
        lastLooks();
        freshCells();
        overflow();
        divisions();
        shifts();
        conversions();
        indexes();
        after();
        allOperands();
        nothingBehindSize();
        orderOfAssignments();
        numbersOfAssignments();
        orderOfParameters();
        conditionsInOrder();
        countsOfSeq();
        emptyPars();
        branchesThatEnd();
        linesOfFaults();
        whatWasDoneIsDone();
        eightyProcesses();
        roomOfDeclarations();
        roomOfValues();
        roomThatIsFreed();
        sixtyCalls();
        hundredOfFunctions();
        hundredInOneStep();
        twentyFunctions();
        howARunIs();
        sizesOfFormals();
        workBeforeBeginAndKey();
        Trial.finish("RunBoundsTest");
    }

    private static void steps(int want, String... lines) {
        Trial.due("steps of\n" + Trial.lines(lines), Trial.run(Trial.begun(3, lines), 2000), want);
    }

    private static void stops(int line, int fault, String... lines) {
        MeetingHouse house = Trial.ran(5, lines);
        Trial.due("FAULT of\n" + Trial.lines(lines), Trial.stopped(house, 0), 100 * line + fault);
    }

    /** r := e, with some variables at hand; its FAULT is told in line 4, as -1 - FAULT. */
    private static void value(long want, String e) {
        MeetingHouse house = Trial.ran(1, "INT r, zero, one, most, least:", "SEQ",
                "  zero, one, most, least := 0, 1, MOSTPOS INT, MOSTNEG INT", "  r := " + e);
        Trial.due(e + ", its FAULT", house.process(0, 5), -1);
        Trial.due(e, house.cell(0), want);
    }

    private static void fault(int want, String e) {
        MeetingHouse house = Trial.ran(1, "INT r, zero, one, most, least:", "SEQ",
                "  zero, one, most, least := 0, 1, MOSTPOS INT, MOSTNEG INT", "  r := " + e);
        Trial.due(e + ", its FAULT", Trial.stopped(house, 0), 400 + want);
        Trial.due(e, house.cell(0), 0);
    }

    /** "WHILE, and SEQ with a REPLICATOR (each time that these are looked at, also the last one)". */
    private static void lastLooks() {
        steps(1, "WHILE FALSE", "  SKIP");
        steps(3, "INT x:", "WHILE x = 0", "  x := 1");
        steps(1, "SEQ i = 0 FOR 0", "  SKIP");
        steps(3, "SEQ i = 0 FOR 1", "  SKIP");
        steps(2, "SEQ i = 0 FOR 1", "  SEQ");
        steps(101, "SEQ i = 0 FOR 100", "  SEQ");
        steps(0, "SEQ", "  SEQ", "  SEQ", "    SEQ");
        // IF and CASE are one, whatever they come to; a call, and what stands in it.
        steps(1, "IF", "  TRUE", "    SEQ");
        steps(1, "IF", "  FALSE", "    SKIP", "  FALSE", "    SKIP");
        steps(1, "CASE 1", "  1", "    SEQ");
        steps(2, "PROC p()", "  SKIP", ":", "p()");
        steps(1, "PROC p()", "  SEQ", ":", "p()");
        steps(1, "STOP");
    }

    /** "On its way VALs and abbreviations are worked out, declared variables become 0 and FALSE, channels are empty." */
    private static void freshCells() {
        MeetingHouse house = Trial.ran(1, "[4] INT v:", "SEQ i = 0 FOR 2", "  INT x:", "  BOOL t:", "  [2] BYTE b:",
                "  SEQ",
                "    v[i], v[i + 2] := (x + (INT t)) + (INT b[1]), i", "    x, t, b := 9, TRUE, \"ab\"");
        for (int i = 0; i < 2; i++) {
            Trial.due("fresh variables", house.cell(i), 0);
            Trial.due("the time", house.cell(i + 2), i);
        }
        // A channel is a new one each time: no message waits in it from the time before.
        MeetingHouse calls = Trial.ran(1, "INT x:", "PROC p(VAL INT n)", "  CHAN OF INT c:", "  PAR", "    c ! n",
                "    c ? x",
                ":", "SEQ", "  p(4)", "  p(5)");
        Trial.due("x", calls.cell(0), 5);
        Trial.due("meetings", calls.count(8), 2);
    }

    /** "1 OVERFLOW: + - * and - of one (PLUS, MINUS, TIMES wrap; MINUS of one, too)." */
    private static void overflow() {
        value(MOST, "most + zero");
        fault(1, "most + one");
        value(LEAST, "least + zero");
        fault(1, "least + (-1)");
        value(LEAST, "(-1) - most");
        fault(1, "(-2) - most");
        fault(1, "least - one");
        fault(1, "zero - least");
        value(MOST, "(-1) - least");
        value(MOST, "most * one");
        fault(1, "most * 2");
        value(LEAST, "least * one");
        fault(1, "least * (-1)");
        value(LEAST, "(one * 65536) * (-32768)");
        fault(1, "(one * 65536) * 32768");
        fault(1, "(one * 65536) * 65536");
        value(-MOST, "- most");
        fault(1, "- least");
        value(0, "- zero");
        value(LEAST, "most PLUS one");
        value(MOST, "least MINUS one");
        value(LEAST, "zero MINUS least");
        value(-2, "most TIMES 2");
        value(0, "least TIMES 2");
        value(LEAST, "least TIMES (-1)");
        value(LEAST, "MINUS least");
        value(-1, "MINUS one");
    }

    /** "2 / or \ by 0 (MOSTNEG / -1: 1; \ 0). / towards 0, \ with the sign of the first." */
    private static void divisions() {
        fault(2, "one / zero");
        fault(2, "zero / zero");
        fault(2, "one \\ zero");
        fault(1, "least / (-1)");
        value(0, "least \\ (-1)");
        value(-MOST, "most / (-1)");
        value(LEAST, "least / one");
        for (int a : new int[] {7, -7}) {
            for (int b : new int[] {2, -2}) {
                value(a / b, "(one * (" + a + ")) / (" + b + ")");
                value(a % b, "(one * (" + a + ")) \\ (" + b + ")");
            }
        }
        value(0, "one / 2");
        value(0, "(-1) / (one + one)");
        value(-1, "(-1) \\ (one + one)");
    }

    /** "8 << or >> (with zeros) by not 0 .. 32." */
    private static void shifts() {
        for (String op : new String[] {"<<", ">>"}) {
            fault(8, "one " + op + " (zero - 1)");
            fault(8, "one " + op + " (one + 32)");
            fault(8, "one " + op + " most");
            fault(8, "one " + op + " least");
            value(0, "one " + op + " (one + 31)");
            value(0, "least " + op + " (one + 31)");
            value(1, "one " + op + " zero");
            value(LEAST, "least " + op + " zero");
        }
        value(LEAST, "one << 31");
        value(1, "least >> 31");
        value(0x40000000, "least >> one");
        value(0, "least << one");
        value(MOST, "(-1) >> one");
    }

    /** "6 BYTE of what is not 0 .. 255; BOOL of not 0, 1." */
    private static void conversions() {
        value(0, "INT (BYTE zero)");
        value(255, "INT (BYTE (one + 254))");
        fault(6, "INT (BYTE (one + 255))");
        fault(6, "INT (BYTE (zero - 1))");
        fault(6, "INT (BYTE least)");
        fault(6, "INT (BYTE most)");
        value(0, "INT (BOOL zero)");
        value(1, "INT (BOOL one)");
        fault(6, "INT (BOOL (one + 1))");
        fault(6, "INT (BOOL (zero - 1))");
        value(LEAST, "INT least");
        value(1, "INT (BYTE (one = 1))");
        value(1, "INT (BOOL (BYTE one))");
        fault(6, "INT (BOOL (BYTE (one + 1)))");
    }

    /** "3 An index that is none." */
    private static void indexes() {
        String[] ahead = {"[3] INT v:", "INT i, r:", "[2] CHAN OF INT c:"};
        for (String act : new String[] {"r := v[i]", "v[i] := 1", "p(v[i])", "q(v[i])"}) {
            for (int i = -1; i <= 3; i++) {
                String[] text = Trial.with(ahead, "PROC p(INT a)", "  SKIP", ":", "PROC q(VAL INT a)", "  SKIP", ":",
                        "SEQ",
                        "  i := " + i, "  " + act);
                MeetingHouse house = Trial.ran(1, text);
                Trial.due(act + " with " + i, Trial.stopped(house, 0), i < 0 || i > 2 ? 1203 : -1);
            }
        }
        for (int i = -1; i <= 2; i++) {
            boolean none = i < 0 || i > 1;
            MeetingHouse writes = Trial.ran(1, Trial.with(ahead, "SEQ", "  i := " + i, "  c[i] ! 1"));
            Trial.due("c[i] !", Trial.stopped(writes, 0), none ? 603 : -1);
            MeetingHouse reads = Trial.ran(1, Trial.with(ahead, "SEQ", "  i := " + i, "  c[i] ? r"));
            Trial.due("c[i] ?", Trial.stopped(reads, 0), none ? 603 : -1);
            MeetingHouse made = Trial.ran(1, Trial.with(ahead, "SEQ", "  i := " + i, "  CHAN OF INT d IS c[i]:",
                    "  SKIP"));
            Trial.due("IS c[i]", Trial.stopped(made, 0), none ? 603 : -1);
        }
        // Arrays without a number: what they were made of counts.
        stops(2, 3, "PROC p([] INT a)", "  a[3] := 1", ":", "[3] INT v:", "p(v)");
        Trial.due("the last", Trial.ran(1, "PROC p([] INT a)", "  a[2] := 7", ":", "[3] INT v:", "p(v)").cell(2), 7);
        stops(3, 3, "INT x:", "PROC p(VAL [] BYTE a)", "  x := INT a[3]", ":", "p(\"abc\")");
    }

    /** "(a AFTER b: a - b, wrapping, is above 0)". */
    private static void after() {
        value(0, "INT (one AFTER one)");
        value(1, "INT (one AFTER zero)");
        value(0, "INT (zero AFTER one)");
        value(1, "INT (least AFTER most)");
        value(0, "INT (most AFTER least)");
        value(1, "INT (most AFTER zero)");
        value(0, "INT (zero AFTER least)");
        value(0, "INT (least AFTER zero)");
        value(1, "INT ((-1) AFTER least)");
    }

    /** "All E's are worked out from the left to the right (all of them, also of AND, OR". */
    private static void allOperands() {
        fault(2, "INT ((one = 1) OR ((one / zero) = 1))");
        fault(2, "INT ((one = 2) AND ((one / zero) = 1))");
        fault(1, "INT ((one = 1) OR ((most + one) = 1) OR ((one / zero) = 1))");
        fault(1, "(most + one) + (one / zero)");
        fault(2, "(one / zero) + (most + one)");
        fault(2, "(SIZE [one]) + (one / zero)");
    }

    /** "but nothing of what stands behind SIZE". */
    private static void nothingBehindSize() {
        value(2, "SIZE [one / zero, most + one]");
        MeetingHouse house = Trial.ran(1, "INT x:", "INT FUNCTION f()", "  VALOF", "    STOP", "    RESULT 1", ":",
                "x := SIZE [f(), f(), f()]");
        Trial.due("x", house.cell(0), 3);
        Trial.due("ENDED", house.count(4), 2);
    }

    /** ":= all E's, then the indexes ahead from the left, then all get their values." */
    private static void orderOfAssignments() {
        MeetingHouse swap = Trial.ran(1, "INT a, b:", "[3] INT v:", "SEQ", "  a, b := 1, 2", "  a, b := b, a",
                "  a, v[a], v[b] := 0, 10 + a, 20 + b");
        int[] due = {0, 1, 0, 21, 12};
        for (int i = 0; i < due.length; i++) {
            Trial.due("cell " + i, swap.cell(i), due[i]);
        }
        // An E's FAULT comes ahead of an index's, that of the left one first; nothing has its value then.
        stops(3, 2, "INT a:", "[3] INT v:", "a, v[a - 1], v[a / a] := 1, 2, 1 / a");
        stops(3, 3, "INT a:", "[3] INT v:", "a, v[a - 1], v[a / a] := 1, 2, 3");
        MeetingHouse none = Trial.ran(1, "INT a:", "[3] INT v:", "a, v[a - 1] := 1, 2");
        Trial.due("a has nothing", none.cell(0), 0);
        Trial.due("the last one stays", Trial.ran(1, "INT a:", "a, a := 1, 2").cell(0), 2);
    }

    /** "9 Arrays of which one has more than the other one (:= , each target when its turn comes; messages)." */
    private static void numbersOfAssignments() {
        for (int n = 2; n <= 4; n++) {
            MeetingHouse house = Trial.ran(1, "INT i:", "[3] INT a:", "[" + n + "] INT b:",
                    "PROC p([] INT x, VAL [] INT y)",
                    "  i, x, i := 1, y, 2", ":", "p(a, b)");
            Trial.due("3 and " + n, Trial.stopped(house, 0), n == 3 ? -1 : 509);
            Trial.due("what came ahead has its value", house.cell(0), n == 3 ? 2 : 1);
        }
        MeetingHouse parts = Trial.ran(1, "PROTOCOL m IS INT; [3] INT:", "CHAN OF m c:", "INT x:",
                "PROC w(VAL [] INT y)", "  c ! 1; y", ":", "PROC r([] INT y)", "  c ? x; y", ":", "[2] INT two:",
                        "[4] INT four:",
                "PAR", "  w(two)", "  r(four)");
        Trial.due("the writer", Trial.stopped(parts, 1), 509);
        Trial.due("the reader", Trial.stopped(parts, 2), 809);
        Trial.due("no meeting", parts.count(8), 0);
        // Parts are worked out in order, each with its number, behind the channel's index.
        stops(4, 9, "PROTOCOL m IS [3] INT; INT:", "CHAN OF m c:", "PROC w(VAL [] INT y)", "  c ! y; 1 / (y[0] - y[0])",
                ":",
                "[2] INT v:", "w(v)");
        stops(4, 2, "PROTOCOL m IS INT; [3] INT:", "CHAN OF m c:", "PROC w(VAL [] INT y)", "  c ! 1 / (y[0] - y[0]); y",
                ":",
                "[2] INT v:", "w(v)");
    }

    /** "A call: its parameters, in order (VAL: worked out; others: the place)". */
    private static void orderOfParameters() {
        String[] ahead = {"INT z:", "[3] INT v:", "PROC p(VAL INT a, INT b, VAL INT c)", "  z := 1", ":"};
        stops(6, 2, Trial.with(ahead, "p(1 / z, v[z - 1], (MOSTPOS INT) + (z + 1))"));
        stops(6, 3, Trial.with(ahead, "p(1, v[z - 1], 1 / z)"));
        stops(6, 2, Trial.with(ahead, "p(1, v[z], 1 / z)"));
        // A place stays the one that it was.
        MeetingHouse place = Trial.ran(1, "INT i:", "[2] INT v:", "PROC p(INT a, b)", "  SEQ", "    b := 1",
                "    a := 5", ":",
                "p(v[i], i)");
        Trial.due("v[0]", place.cell(1), 5);
        Trial.due("v[1]", place.cell(2), 0);
    }

    /** "IF: conditions in order up to the first TRUE one." */
    private static void conditionsInOrder() {
        MeetingHouse house = Trial.ran(1, "INT x:", "IF", "  x = 1", "    STOP", "  x = 0", "    x := 1",
                "  x = (1 / x)", "    STOP");
        Trial.due("x", house.cell(0), 1);
        Trial.due("ENDED", house.count(4), 2);
        stops(3, 2, "INT x:", "IF", "  x = (1 / x)", "    SKIP", "  TRUE", "    SKIP");
        // "4 An IF without a TRUE condition. 5 CASE without the option".
        stops(1, 4, "IF");
        stops(2, 4, "INT x:", "IF", "  x = 1", "    SKIP", "  x = 2", "    SKIP");
        stops(1, 5, "CASE 1");
        stops(2, 5, "INT x:", "CASE x", "  1, 2", "    SKIP", "  -1", "    SKIP");
        Trial.due("ELSE", Trial.ran(1, "INT x:", "CASE x", "  1", "    STOP", "  ELSE", "    x := 7").cell(0), 7);
        Trial.due("an option ahead of ELSE", Trial.ran(1, "INT x:", "CASE x", "  0", "    x := 3", "  ELSE",
                "    x := 7").cell(0), 3);
    }

    /** "SEQ: base and count when it is first looked at"; "7 A count below 0". */
    private static void countsOfSeq() {
        stops(2, 7, "INT x:", "SEQ i = 0 FOR x - 1", "  SKIP");
        stops(2, 7, "INT x:", "SEQ i = 0 FOR (MOSTNEG INT) + x", "  SKIP");
        stops(1, 7, "SEQ i = 0 FOR -1", "  SKIP");
        Trial.due("count 0", Trial.ran(1, "INT x:", "SEQ i = 0 FOR x", "  STOP").count(4), 2);
        stops(2, 2, "INT x:", "SEQ i = 1 / x FOR -1", "  SKIP");
        stops(2, 2, "INT x:", "SEQ i = 0 FOR 1 / x", "  SKIP");
        MeetingHouse once = Trial.ran(1, "INT b, n, s:", "SEQ", "  b, n := 10, 3", "  SEQ i = b FOR n",
                "    b, n, s := 0, 9, s + i");
        Trial.due("worked out once", once.cell(2), 33);
        MeetingHouse wraps = Trial.ran(1, "[3] INT v:", "SEQ i = 0 FOR 1", "  SEQ j = (MOSTPOS INT) - 1 FOR 3",
                "    v[(j MINUS (MOSTPOS INT)) + 1] := j");
        Trial.due("MOSTPOS - 1", wraps.cell(0), MOST - 1);
        Trial.due("MOSTPOS", wraps.cell(1), MOST);
        Trial.due("MOSTNEG", wraps.cell(2), LEAST);
    }

    /** "PAR: its branches become processes .. it WAITS till all have ended." */
    private static void emptyPars() {
        MeetingHouse none = Trial.begun(1, "SEQ", "  PAR", "  PAR i = 0 FOR 0", "    STOP", "  SKIP");
        Trial.run(none, 1);
        Trial.due("a PAR without branches goes on at once", none.process(0, 1), 3);
        Trial.run(none, 1);
        Trial.due("so does one FOR 0", none.process(0, 1), 5);
        Trial.due("none was made", none.count(7), 1);
        // Branches without an ACT end as they are made, in order, and have had their numbers.
        MeetingHouse empty = Trial.begun(1, "SEQ", "  PAR i = 0 FOR 3", "    SEQ", "  PAR", "    SEQ", "    STOP");
        Trial.run(empty, 1);
        Trial.due("made", empty.count(7), 4);
        Trial.due("there", empty.count(6), 1);
        Trial.due("line", empty.process(0, 1), 4);
        Trial.run(empty, 1);
        Trial.due("made", empty.count(7), 6);
        Trial.due("there", empty.count(6), 2);
        Trial.due("the one that is left", empty.process(5, 1), 6);
        Trial.due("WAITS for its branches", empty.process(0, 0), 5);
    }

    /** "with the last one, that process of the PAR goes on, in this STEP". */
    private static void branchesThatEnd() {
        MeetingHouse house = Trial.begun(1, "INT z:", "SEQ", "  PAR", "    SKIP", "    SKIP", "  VAL INT y IS 1 / z:",
                "  SKIP");
        Trial.run(house, 2);
        Trial.due("one branch is left", house.count(6), 2);
        Trial.due("the PAR waits", house.process(0, 0), 5);
        Trial.run(house, 1);
        Trial.due("both have ended", house.count(6), 1);
        Trial.due("its way goes on, with its FAULT", Trial.stopped(house, 0), 602);
        // Through several PARs, up to the end of the program.
        MeetingHouse deep = Trial.begun(1, "PAR", "  PAR", "    PAR", "      SKIP");
        Trial.due("run", Trial.run(deep, 9), 4);
        Trial.due("ENDED", deep.count(4), 2);
        Trial.due("none is there", deep.count(6), 0);
        // A STOPPED branch is there for good.
        MeetingHouse stuck = Trial.ran(1, "SEQ", "  PAR", "    STOP", "    SKIP", "  SKIP");
        Trial.due("the PAR waits", stuck.process(0, 0), 5);
        Trial.due("STANDS", stuck.count(4), 3);
    }

    /** "with the line of what it does: of the ACT, the DECLARATION, the E of an IF, the GUARD .. FUNCTIONs: of what calls
     * them". */
    private static void linesOfFaults() {
        stops(2, 2, "INT z:", "VAL INT y IS 1 / z:", "SKIP");
        stops(2, 2, "INT z:", "VAL [] INT y IS [1, 1 / z]:", "SKIP");
        stops(3, 3, "INT z:", "[2] INT v:", "INT y IS v[z - 1]:", "SKIP");
        stops(4, 2, "INT z:", "SEQ", "  SKIP", "  WHILE (1 / z) = 1", "    SKIP");
        stops(6, 2, "INT z:", "PROC p(VAL INT a)", "  SEQ", "    SKIP", "    VAL INT b IS a:", "    z := 1 / b", ":",
                "p(0)");
        stops(3, 2, "INT z:", "PROC p(VAL INT a)", "  VAL INT b IS 1 / a:", "  SKIP", ":", "p(0)");
        String[] ahead = {"INT z:", "INT FUNCTION f(VAL INT a)", "  INT b:", "  VALOF", "    b := 1 / a",
                "    RESULT b", ":"};
        stops(8, 2, Trial.with(ahead, "z := f(z)"));
        stops(8, 2, Trial.with(ahead, "VAL INT y IS f(z):", "SKIP"));
        stops(9, 2, Trial.with(ahead, "IF", "  f(z) = 1", "    SKIP"));
        stops(9, 2, Trial.with(ahead, "ALT", "  f(z) = 1 & SKIP", "    SKIP"));
        stops(8, 0, "INT z:", "INT FUNCTION f(VAL INT a)", "  INT b:", "  VALOF", "    STOP", "    RESULT b", ":",
                "z := f(1)");
        stops(8, 4, "INT z:", "INT FUNCTION f(VAL INT a)", "  INT b:", "  VALOF", "    IF", "    RESULT b", ":",
                "z := f(1)");
    }

    /** "what it had done is done". */
    private static void whatWasDoneIsDone() {
        MeetingHouse house = Trial.ran(1, "INT a, b:", "PROC p(VAL [] INT x)", "  [5] INT y:", "  a := 1 / b", ":",
                "SEQ", "  b := 7",
                "  b := 0", "  p([1, 2, 3])");
        Trial.due("FAULT 2", Trial.stopped(house, 0), 402);
        Trial.due("(What a STOPPED process had taken stays taken.)", house.count(12), 10);
        // A FUNCTION's cells, too.
        MeetingHouse function = Trial.ran(1, "INT z:", "INT FUNCTION f(VAL [] INT x)", "  [5] INT y:", "  VALOF",
                "    STOP",
                "    RESULT 1", ":", "z := f([1, 2, 3])");
        Trial.due("FAULT 0", Trial.stopped(function, 0), 800);
        Trial.due("cells", function.count(12), 9);
        // Parameters that were worked out ahead of one with a FAULT.
        MeetingHouse call = Trial.ran(1, "INT z:", "PROC p(VAL [] INT x, VAL INT y)", "  SKIP", ":",
                "p([1, 2, 3], 1 / z)");
        Trial.due("FAULT 2", Trial.stopped(call, 0), 502);
        Trial.due("cells", call.count(12), 4);
    }

    /** "10 ROOM: more than 80 processes that are there (then none of the PAR's is made)". */
    private static void eightyProcesses() {
        String[] text = {"SEQ", "  SKIP", "  PAR", "    STOP", "    SEQ", "      PAR i = 0 FOR 64", "        SEQ",
            "      PAR i = 0 FOR 64", "        SEQ"};
        Trial.due("those that have ended are not there", Trial.stopped(Trial.ran(1, text), 2), -1);
        for (int n = 13; n <= 15; n++) {
            // Process 0, 1 and 2, and 64: there is room for 13.
            MeetingHouse house = Trial.ran(1, "CHAN OF INT c:", "INT x:", "PAR", "  PAR i = 0 FOR 64", "    SEQ",
                    "      SKIP",
                    "      STOP", "  TIMER t:", "  SEQ", "    t ? AFTER 1000", "    PAR i = 0 FOR " + n, "      STOP");
            boolean fits = n == 13;
            Trial.due(n + " more", Trial.stopped(house, 2), fits ? -1 : 1110);
            Trial.due("are there", house.count(6), fits ? 80 : 67);
            Trial.due("were made", house.count(7), fits ? 80 : 67);
            Trial.due("are STOPPED", house.count(13), fits ? 77 : 65);
        }
        MeetingHouse zero = Trial.ran(1, "PAR", "  PAR i = 0 FOR 64", "    STOP", "  TIMER t:", "  SEQ",
                "    t ? AFTER 1000",
                "    PAR i = 0 FOR 13", "      SEQ", "        SKIP", "        PAR", "        PAR i = 0 FOR 0",
                        "          STOP");
        Trial.due("a PAR without branches fits always", zero.count(13), 64);
    }

    /** "or 20,000 cells of DECLARATIONS that stand open (then none of the DECLARATION's)". */
    private static void roomOfDeclarations() {
        String ten = "a, b, c, d, e, f, g, h, i, j";
        // Each of 4 branches takes 4,000 cells; 3,998 are left behind the program's own two.
        String[] text = {"INT n, m:", "PROC p()", "  [200] INT " + ten + ":", "  [200] CHAN OF INT " + ten + ":",
                "  STOP", ":",
            "SEQ", "  PAR", "    PAR i = 0 FOR 4", "      p()", "    TIMER t:", "    SEQ", "      t ? AFTER 1000", "",
                    "      STOP"};
        text[13] = "      [199] INT k, l, n, o, q, r, s, t, u, v, w, x, y, z, aa, bb, cc, dd, ee, ff:";
        MeetingHouse fits = Trial.ran(1, text);
        Trial.due("STOP", Trial.stopped(fits, 2), 1500);
        Trial.due("cells", fits.count(12), 2 + 16000 + 3980);
        text[13] = "      [200] INT k, l, n, o, q, r, s, t, u, v, w, x, y, z, aa, bb, cc, dd, ee, ff:";
        MeetingHouse none = Trial.ran(1, text);
        Trial.due("FAULT 10 at the DECLARATION", Trial.stopped(none, 2), 1410);
        Trial.due("none of the DECLARATION's", none.count(12), 2 + 16000);
        exactRoom();
    }

    private static void exactRoom() {
        String ten = "a, b, c, d, e, f, g, h, i, j";
        for (int own = 0; own <= 2; own++) {
            // 5 * 4,000 are 20,000, less what the program itself has.
            String[] text = {own == 0 ? "" : own == 1 ? "INT n:" : "CHAN OF INT n, m:", "PROC p()", "  [200] INT " + ten
                    + ":",
                "  [200] CHAN OF INT " + ten + ":", "  STOP", ":", "PAR i = 0 FOR 5", "  p()"};
            MeetingHouse house = Trial.ran(1, text);
            int tens = 0;
            for (int p = 1; p <= 5; p++) {
                tens += Trial.stopped(house, p) == 410 ? 1 : 0;
            }
            Trial.due("FAULTs 10 with " + own + " cells", tens, own == 0 ? 0 : 1);
            Trial.due("cells", house.count(12), own == 0 ? 20000 : 18000 + own);
        }
    }

    /** "VALs and FORMALs with VAL that are arrays are made anew as they are worked out, one for each element, too (10 at
     * their DECLARATION, at the call, there and then); none for all else". */
    private static void roomOfValues() {
        String ten = "a, b, c, d, e, f, g, h, i, j";
        String[] text = {"[200] INT v:", "PROC fill()", "  [200] INT " + ten + ":", "  [200] CHAN OF INT " + ten + ":",
                "  STOP", ":",
            "PROC q(VAL [] INT x)", "  STOP", ":", "PROC less()", "  [200] INT " + ten + ":",
            "  [200] BYTE a, b, c, d, e, f, g, h, i:", "  STOP", ":", "PAR", "  PAR i = 0 FOR 4", "    fill()",
                    "  less()",
            "  TIMER t:", "  SEQ", "    t ? AFTER 1000", "", "    STOP"};
        // 200, four times 4,000, 3,800: that are 20,000.
        text[21] = "    VAL [] INT w IS [1]:";
        Trial.due("10 at the DECLARATION", Trial.stopped(Trial.ran(1, text), 3), 2210);
        text[21] = "    q([1])";
        MeetingHouse call = Trial.ran(1, text);
        Trial.due("10 at the call", Trial.stopped(call, 3), 2210);
        Trial.due("cells", call.count(12), 20000);
        text[21] = "    VAL INT w IS v[0] + 1:";
        Trial.due("none for a VAL that is no array", Trial.stopped(Trial.ran(1, text), 3), 2300);
        text[21] = "    [] INT w IS v:";
        Trial.due("none for an abbreviation", Trial.stopped(Trial.ran(1, text), 3), 2300);
        text[21] = "    TIMER w:";
        Trial.due("none for a TIMER", Trial.stopped(Trial.ran(1, text), 3), 2300);
        text[11] = "  [200] BYTE a, b, c, d, e, f, g, h:";
        text[21] = "    VAL [] INT w IS v:";
        MeetingHouse fits = Trial.ran(1, text);
        Trial.due("200 are left", Trial.stopped(fits, 3), 2300);
        Trial.due("all are taken", fits.count(12), 20000);
    }

    private static void roomThatIsFreed() {
        MeetingHouse house = Trial.begun(1, "[2] INT v:", "PROC p(VAL [] INT a)", "  [3] INT b:", "  SKIP", ":",
                "INT FUNCTION f(VAL [] INT a)", "  [7] INT b:", "  VALOF", "    [9] INT c:", "    SKIP",
                        "    RESULT SIZE a", ":", "SEQ",
                "  p(v)", "  v[0] := f(v)", "  SEQ i = 0 FOR 2", "    VAL [] INT w IS v:", "    [4] CHAN OF INT c:",
                        "    SKIP", "  PAR",
                "    INT x:", "    SKIP", "    SKIP", "  SKIP");
        int[] due = {2, 7, 2, 2, 8, 2, 8, 2, 2, 3};
        for (int i = 0; i < due.length; i++) {
            Trial.due("cells behind " + i + " STEPS", house.count(12), due[i]);
            Trial.run(house, 1);
        }
        Trial.run(house, 9);
        Trial.due("ENDED", house.count(4), 2);
        Trial.due("none is taken then", house.count(12), 0);
    }

    /** "or a PROC that is called within 60 calls of PROCs by the same process (at the call, behind its parameters)". */
    private static void sixtyCalls() {
        String[] chain = new String[62 * 3];
        for (int i = 0; i < 62; i++) {
            chain[3 * i] = "PROC p" + i + "(VAL [] INT a)";
            chain[3 * i + 1] = i == 0 ? "  SKIP" : "  p" + (i - 1) + "(a)";
            chain[3 * i + 2] = ":";
        }
        Trial.due("60 calls", Trial.ran(1, Trial.with(chain, "p59([1, 2])")).count(4), 2);
        MeetingHouse more = Trial.ran(1, Trial.with(chain, "p60([1, 2])"));
        Trial.due("one more, at the call", Trial.stopped(more, 0), 510);
        Trial.due("its parameters were worked out", more.count(12), 61 * 2);
        // Calls of other processes do not count, nor those that have ended.
        MeetingHouse other = Trial.ran(1, Trial.with(chain, "PROC q()", "  PAR", "    p59([1])", ":", "q()"));
        Trial.due("another process begins with none", other.count(4), 2);
        MeetingHouse again = Trial.ran(1, Trial.with(chain, "SEQ", "  p59([1])", "  p59([1])"));
        Trial.due("those that have ended do not count", again.count(4), 2);
    }

    /** "11 More than 100 calls of FUNCTIONs (a call counts behind its parameters) and ACTS within them, together". */
    private static void hundredOfFunctions() {
        String[] ahead = {"INT x, z:", "INT FUNCTION n(VAL INT a) IS a + 1:", "INT FUNCTION acts(VAL INT a)", "  VALOF",
            "    SEQ i = 0 FOR a", "      SEQ", "    RESULT a", ":", "INT FUNCTION skips(VAL INT a)", "  VALOF",
                    "    SEQ", "      SKIP",
            "      SEQ i = 0 FOR a", "        SEQ", "    RESULT a", ":"};
        // 1 call and a + 1 looks.
        Trial.due("100 with acts", Trial.ran(1, Trial.with(ahead, "x := acts(98)")).cell(0), 98);
        Trial.due("101 with acts", Trial.stopped(Trial.ran(1, Trial.with(ahead, "x := acts(99)")), 0), 1711);
        Trial.due("100 with SKIP", Trial.ran(1, Trial.with(ahead, "x := skips(97)")).cell(0), 97);
        Trial.due("101 with SKIP", Trial.stopped(Trial.ran(1, Trial.with(ahead, "x := skips(98)")), 0), 1711);
        Trial.due("100 with a call", Trial.ran(1, Trial.with(ahead, "x := acts(97) + n(1)")).cell(0), 99);
        Trial.due("101 with a call", Trial.stopped(Trial.ran(1, Trial.with(ahead, "x := acts(98) + n(1)")), 0), 1711);
        // A call counts behind its parameters: their FAULT comes first.
        Trial.due("2, not 11", Trial.stopped(Trial.ran(1, Trial.with(ahead, "x := acts(98) + n(1 / z)")), 0), 1702);
        Trial.due("each STEP begins with none", Trial.ran(1, Trial.with(ahead, "SEQ", "  x := acts(98)",
                "  x := acts(98)")).count(4), 2);
    }

    /** "in one STEP (in begin() and key(), too)". */
    private static void hundredInOneStep() {
        String[] ahead = {"INT x:", "INT FUNCTION f(VAL INT a)", "  VALOF", "    SEQ i = 0 FOR a", "      SEQ",
                "    RESULT a", ":"};
        MeetingHouse begun = Trial.begun(1, Trial.with(ahead, "VAL INT a IS f(48):", "VAL INT b IS f(48):",
                "x := a + b"));
        Trial.due("100 in begin()", begun.process(0, 0), 0);
        MeetingHouse more = Trial.begun(1, Trial.with(ahead, "VAL INT a IS f(48):", "VAL INT b IS f(49):", "x := a + b"));
        Trial.due("101 in begin()", Trial.stopped(more, 0), 911);
        // An ACT and the way behind it are one STEP.
        MeetingHouse way = Trial.ran(1, Trial.with(ahead, "SEQ", "  x := f(48)", "  VAL INT b IS f(48):", "  x := b"));
        Trial.due("100 in a STEP and its way", way.count(4), 2);
        MeetingHouse longer = Trial.ran(1, Trial.with(ahead, "SEQ", "  x := f(48)", "  VAL INT b IS f(49):", "  x := b"));
        Trial.due("101 in a STEP and its way", Trial.stopped(longer, 0), 1011);
        MeetingHouse key = Trial.ran(1, Trial.with(ahead, "SEQ", "  x := f(90)", "  keyboard ? x",
                "  VAL INT b IS f(98):", "  x := b"));
        key.key(1);
        Trial.due("100 in key()", key.process(0, 0), 0);
        MeetingHouse keys = Trial.ran(1, Trial.with(ahead, "SEQ", "  keyboard ? x", "  VAL INT b IS f(99):", "  x := b"));
        keys.key(1);
        Trial.due("101 in key()", Trial.stopped(keys, 0), 1011);
        // Both ways of a meeting are in one STEP.
        for (int n = 48; n <= 49; n++) {
            MeetingHouse both = Trial.ran(1, Trial.with(ahead, "CHAN OF INT c:", "INT y:", "PAR", "  SEQ", "    c ! 1",
                    "    VAL INT a IS f(48):",
                    "    SKIP", "  SEQ", "    c ? y", "    VAL INT a IS f(" + n + "):", "    SKIP"));
            Trial.due("both ways with " + n, both.count(13), n == 48 ? 0 : 1);
        }
    }

    /** "or a FUNCTION that would be worked out within 20 others". */
    private static void twentyFunctions() {
        String[] chain = new String[24];
        chain[0] = "INT x:";
        chain[1] = "INT FUNCTION f1(VAL INT a) IS a + 1:";
        for (int i = 2; i <= 22; i++) {
            chain[i] = "INT FUNCTION f" + i + "(VAL INT a) IS f" + (i - 1) + "(a) + 1:";
        }
        chain[23] = "";
        Trial.due("within 19 others", Trial.ran(1, Trial.with(chain, "x := f20(0)")).cell(0), 20);
        Trial.due("within 20 others", Trial.stopped(Trial.ran(1, Trial.with(chain, "x := f21(0)")), 0), 2511);
        // A parameter is worked out ahead of its call, not within.
        Trial.due("parameters", Trial.ran(1, Trial.with(chain, "x := f20(f20(0))")).cell(0), 40);
        Trial.due("one behind the other", Trial.ran(1, Trial.with(chain, "x := f20(0) + f20(0)")).cell(0), 40);
    }

    /** "ENDED, when process 0 has ended; else, when no process is READY nor WAITS for a time: it WAITS FOR A KEY, if one
     * does (also in an ALT that has keyboard, TRUE, in a GUARD), else it STANDS." */
    private static void howARunIs() {
        Trial.due("goes on", Trial.begun(1, "SKIP").count(4), 1);
        Trial.due("ENDED", Trial.ran(1, "SKIP").count(4), 2);
        Trial.due("STANDS", Trial.ran(1, "STOP").count(4), 3);
        Trial.due("KEY", Trial.ran(1, "INT x:", "keyboard ? x").count(4), 4);
        // One that is READY, or waits for a time, comes ahead of all others.
        MeetingHouse time = Trial.begun(1, "INT x:", "PAR", "  keyboard ? x", "  STOP", "  TIMER t:", "  t ? AFTER 100");
        Trial.run(time, 4);
        Trial.due("a time", time.count(4), 1);
        Trial.run(time, 9);
        Trial.due("KEY", time.count(4), 4);
        time.key(1);
        Trial.due("STANDS", time.count(4), 3);
        MeetingHouse alt = Trial.begun(1, "INT x:", "TIMER t:", "ALT", "  t ? AFTER 100", "    STOP", "  keyboard ? x",
                "    STOP");
        Trial.run(alt, 1);
        Trial.due("an ALT with a time", alt.count(4), 1);
        String[] guards = {"INT x:", "CHAN OF INT c:", "ALT", "  c ? x", "    SKIP", "", "    SKIP"};
        guards[5] = "  keyboard ? x";
        Trial.due("keyboard", Trial.ran(1, guards).count(4), 4);
        guards[5] = "  x = 0 & keyboard ? x";
        Trial.due("keyboard, TRUE", Trial.ran(1, guards).count(4), 4);
        guards[5] = "  x = 1 & keyboard ? x";
        Trial.due("keyboard, FALSE", Trial.ran(1, guards).count(4), 3);
        MeetingHouse off = Trial.ran(1, "INT x:", "TIMER t:", "CHAN OF INT c:", "ALT", "  c ? x", "    SKIP",
                "  x = 1 & t ? AFTER 100",
                "    SKIP");
        Trial.due("a time in a GUARD that is FALSE", off.count(4), 3);
    }

    /** SIZE of arrays without a number is that of what they were made of. */
    private static void sizesOfFormals() {
        MeetingHouse house = Trial.ran(1, "[6] INT r:", "PROC p([] INT a, VAL [] BYTE b, [] INT c)", "  [] INT d IS c:",
                "  VAL [] INT e IS d:", "  SEQ",
                "    a[0], a[1] := SIZE a, SIZE (b)", "    a[2], a[3] := SIZE ((c)), SIZE d", "    a[4] := SIZE e", ":",
                        "[1] INT one:",
                "p(r, \"abcd\", one)");
        int[] due = {6, 4, 1, 1, 1, 0};
        for (int i = 0; i < due.length; i++) {
            Trial.due("r[" + i + "]", house.cell(i), due[i]);
        }
    }

    /** The 100 of FUNCTIONs begin anew in begin() and key(), whatever the STEP ahead has taken. */
    private static void workBeforeBeginAndKey() {
        String[] ahead = {"INT x, y:", "INT FUNCTION f(VAL INT a)", "  VALOF", "    SEQ i = 0 FOR a", "      SEQ",
                "    RESULT a", ":"};
        MeetingHouse house = Trial.ran(1, Trial.with(ahead, "VAL INT v IS f(90):", "SEQ", "  x := f(90)", "  STOP"));
        Trial.due("STOP", Trial.stopped(house, 0), 1100);
        house.begin(1);
        Trial.due("READY", house.process(0, 0), 0);
        MeetingHouse last = Trial.begun(1, Trial.with(ahead, "VAL INT v IS f(90):", "SEQ", "  x := f(90)", "  STOP"));
        Trial.run(last, 1);
        last.begin(1);
        Trial.due("READY", last.process(0, 0), 0);
        MeetingHouse key = Trial.ran(1, Trial.with(ahead, "PAR", "  SEQ", "    keyboard ? x", "    VAL INT v IS f(90):",
                "    x := v", "  TIMER t:", "  SEQ",
                "    t ? AFTER 50", "    y := f(90)", "    STOP"));
        Trial.due("KEY", key.count(4), 4);
        key.key(1);
        Trial.due("READY", key.process(1, 0), 0);
        MeetingHouse beside = Trial.begun(1, Trial.with(ahead, "PAR", "  SEQ", "    keyboard ? x",
                "    VAL INT v IS f(90):", "    x := v", "  TIMER t:",
                "  SEQ", "    t ? AFTER 50", "    y := f(90)", "    WHILE TRUE", "      y := f(90)"));
        Trial.run(beside, 5);
        for (int i = 0; i < 4; i++) {
            Trial.run(beside, 1);
        }
        beside.key(1);
        Trial.due("READY", beside.process(1, 0), 0);
    }
}
