import java.util.Arrays;

/** The boundary cases of section 2, RULES, sentence by sentence: faults 4 to 15, in four rounds. */
public final class RuleBoundsTest {
    public static void main(String[] args) {
        knownFrom();
        knownTo();
        latestOne();
        predefined();
        rounds();
        namesTwice();
        tagsTwice();
        meanings();
        messagesOfTags();
        formalsOfFunctions();
        faultyFits();
        tables();
        numbersOfArrays();
        arraysWithoutNumber();
        channelsAndTimers();
        sameKind();
        notAsMany();
        elementsOfArrays();
        elementsOfParts();
        countsOfReplicators();
        notConstant();
        constantFaults();
        constantIndexes();
        cellsInAll();
        namesInAll();
        cellsOfMessages();
        optionsTwice();
        namesOfDeclarations();
        kindsOfFormals();
        tagsOfArrays();
        partsBesideFaults();
        constantValues();
        Trial.finish("RuleBoundsTest");
    }

    private static void reads(int fault, int line, String... lines) {
        Trial.reads(fault, line, lines);
    }

    /** "A NAME is known from behind its DECLARATION (of PROC and FUNCTION: behind their last line; FORMALs: behind
     * their list, a REPLICATOR's: behind it, within alone)". */
    private static void knownFrom() {
        reads(5, 1, "VAL INT n IS n:", "SKIP");
        reads(5, 1, "[n] INT n:", "SKIP");
        reads(5, 1, "INT n IS n:", "SKIP");
        reads(5, 1, "CHAN OF p p:", "SKIP");
        reads(5, 1, "PROTOCOL p IS [p] INT:", "SKIP");
        reads(5, 3, "PROTOCOL p", "  CASE", "    a; [a] INT", ":", "SKIP");
        reads(5, 2, "PROC p()", "  p()", ":", "SKIP");
        reads(5, 1, "INT FUNCTION f() IS f():", "SKIP");
        reads(5, 4, "INT FUNCTION f()", "  VALOF", "    SKIP", "    RESULT f()", ":", "SKIP");
        reads(5, 1, "PROC p(CHAN OF a a)", "  SKIP", ":", "SKIP");
        reads(5, 1, "SEQ i = i FOR 1", "  SKIP");
        reads(5, 1, "PAR i = 0 FOR i", "  SKIP");
        reads(5, 1, "ALT i = i FOR 1", "  SKIP", "    SKIP");
        reads(0, 0, "ALT i = 0 FOR 1", "  i = 0 & SKIP", "    SKIP");
        // A PROTOCOL's tags are known with it.
        reads(0, 0, "PROTOCOL p", "  CASE", "    a", ":", "CHAN OF p c:", "c ! a");
        reads(5, 5, "PROTOCOL p", "  CASE", "    a", ":", "CHAN OF q c:", "SKIP");
    }

    /** "to the end of the PROCESS (PROC, FUNCTION) that the DECLARATION stands ahead in". */
    private static void knownTo() {
        reads(5, 4, "SEQ", "  INT x:", "  x := 1", "  x := 1");
        reads(5, 5, "IF", "  TRUE", "    INT x:", "    x := 1", "  x = 1", "    SKIP");
        reads(5, 7, "SEQ", "  PROTOCOL p", "    CASE", "      a", "  :", "  SKIP", "  CHAN OF p c:", "  SKIP");
        reads(5, 6, "SEQ", "  PROC p()", "    SKIP", "  :", "  p()", "  p()");
        reads(5, 4, "PROC p(INT a)", "  a := 1", ":", "a := 1");
        reads(5, 5, "PROC p()", "  INT a:", "  a := 1", ":", "a := 1");
        reads(5, 4, "SEQ", "  SEQ i = 0 FOR 1", "    SKIP", "  SEQ j = i FOR 1", "    SKIP");
        // A FUNCTION's DECLARATIONS reach its RESULT, those of its PROCESS do not.
        reads(0, 0, "INT FUNCTION f()", "  INT a:", "  VALOF", "    SKIP", "    RESULT a", ":", "SKIP");
        reads(5, 5, "INT FUNCTION f()", "  VALOF", "    INT a:", "    SKIP", "    RESULT a", ":", "SKIP");
        reads(5, 2, "INT FUNCTION f(VAL INT a) IS a:", "VAL INT b IS a:", "SKIP");
    }

    /** "the innermost, latest one is meant". */
    private static void latestOne() {
        reads(0, 0, "TIMER x:", "INT x:", "x := 1");
        reads(6, 3, "INT x:", "TIMER x:", "x := 1");
        reads(6, 4, "INT x:", "SEQ", "  TIMER x:", "  x := 1");
        reads(0, 0, "INT x:", "SEQ", "  TIMER x:", "  SKIP", "  x := 1");
        reads(6, 3, "INT x:", "SEQ x = 0 FOR 1", "  x := 1");
        reads(0, 0, "VAL INT x IS 1:", "VAL INT x IS x + 1:", "[x] INT v:", "v[1] := 1");
        reads(9, 4, "VAL INT x IS 1:", "VAL INT x IS x + 1:", "[x] INT v:", "v[2] := 1");
        reads(6, 6, "PROTOCOL p", "  CASE", "    a", ":", "INT a:", "CHAN OF a c:", "SKIP");
    }

    /** "PREDEFINED, around the program: screen .. keyboard". */
    private static void predefined() {
        reads(0, 0, "screen ! 'a'");
        reads(7, 1, "screen ! 1");
        reads(8, 1, "screen ! 'a'; 'b'");
        reads(7, 2, "BYTE b:", "keyboard ? b");
        reads(6, 2, "INT x:", "x := keyboard");
        reads(0, 0, "INT screen, keyboard:", "screen := keyboard");
        reads(6, 2, "INT screen:", "screen ! 'a'");
        // They count in no DECLARATION, and stand in common.
        MeetingHouse house = Trial.house("screen ! 'a'\n");
        house.read();
        Trial.due("count(2)", house.count(2), 0);
    }

    /** "of one round the one of the lowest line, of one line the least; a later round only if there is none". */
    private static void rounds() {
        reads(4, 1, "INT x, x, y:", "z := w");
        reads(5, 2, "INT x:", "x := y + screen");
        reads(6, 2, "INT x:", "screen := x");
        reads(5, 5, "INT x:", "SEQ", "  x := TRUE", "  x := 1 / 0", "  x := y");
        reads(7, 3, "INT x:", "SEQ", "  x := TRUE", "  x, x := 1", "  x := 1 / 0");
        reads(7, 3, "INT x:", "SEQ", "  x, x := TRUE", "  x := 1 / 0");
        reads(8, 2, "INT x:", "x, x := 1 / 0");
        reads(9, 4, "INT x:", "PAR", "  x := 1", "  x := 1 / 0");
        reads(11, 5, "INT x:", "PAR", "  x := 1", "  SEQ", "    keyboard ! 1", "    x := 1");
        reads(12, 8, "PROC p(INT a, b)", "  SKIP", ":", "INT x:", "PAR", "  x := 1", "  SEQ", "    p(x, x)",
                "    x := 1");
        reads(13, 5, "CHAN OF INT c:", "INT x:", "PAR", "  c ? x", "  c ? x");
        reads(14, 5, "CHAN OF INT c:", "INT x:", "PAR", "  c ! 1", "  c ! x");
    }

    /** "4 one that the same DECLARATION, or list of FORMALs .. has ahead already". */
    private static void namesTwice() {
        reads(4, 1, "INT x, x:", "SKIP");
        reads(4, 1, "[2] INT x, y, x:", "SKIP");
        reads(4, 1, "CHAN OF INT x, x:", "SKIP");
        reads(4, 1, "TIMER x, x:", "SKIP");
        reads(4, 1, "PROC p(INT a, a)", "  SKIP", ":", "SKIP");
        reads(4, 1, "PROC p(INT a, VAL BYTE b, CHAN OF INT a)", "  SKIP", ":", "SKIP");
        reads(4, 1, "INT FUNCTION f(VAL INT a, VAL INT a) IS 1:", "SKIP");
        // Another DECLARATION may have it, and what is no list with it.
        reads(0, 0, "INT x:", "INT x:", "TIMER x:", "SKIP");
        reads(0, 0, "PROC p(INT p)", "  p := 1", ":", "SKIP");
        reads(0, 0, "PROC p(INT a)", "  INT a:", "  a := 1", ":", "SKIP");
        reads(0, 0, "SEQ i = 0 FOR 1", "  SEQ i = i FOR 1", "    SKIP");
    }

    /** "or the tags of one PROTOCOL (among themselves)". */
    private static void tagsTwice() {
        reads(4, 4, "PROTOCOL p", "  CASE", "    a", "    a", ":", "SKIP");
        reads(4, 5, "PROTOCOL p", "  CASE", "    a; INT", "    b", "    a", ":", "SKIP");
        reads(0, 0, "PROTOCOL p", "  CASE", "    p", ":", "SKIP");
        reads(0, 0, "PROTOCOL p", "  CASE", "    a", ":", "PROTOCOL q", "  CASE", "    a", ":", "SKIP");
        // The latest one is meant: a is q's then.
        reads(7, 10, "PROTOCOL p", "  CASE", "    a", ":", "PROTOCOL q", "  CASE", "    a", ":", "CHAN OF p c:", "c ! a");
    }

    /** "6 One that means what can't stand there". */
    private static void meanings() {
        String[] all = {"INT x:", "CHAN OF INT c:", "TIMER t:", "VAL INT v IS 1:", "PROC q()", "  SKIP", ":",
            "INT FUNCTION f() IS 1:", "PROTOCOL k IS INT:", "PROTOCOL l", "  CASE", "    g", ":", "INT y:"};
        String[] names = {"x", "c", "t", "v", "q", "f", "k", "l", "g"};
        String[][] where = {{"@ := 1", "x"}, {"@ ? AFTER 1", "t"}, {"@ ? y", "c t"}, {"@ ? y; y", "c"}, {"@ ! 1", "c"},
            {"c ? @", "x"}, {"@()", "q"}, {"y := @()", "f"}, {"y := @", "x v"}, {"y := 1 + @", "x v"}, {"y := (@)",
                    "x v"}};
        for (String[] one : where) {
            for (String name : names) {
                boolean stands = Arrays.asList(one[1].split(" ")).contains(name);
                String act = one[0].replace("@", name);
                String text = Trial.lines(Trial.with(all, act));
                int got = Trial.house(text).read();
                // What can stand there may have a fault of a later round.
                Trial.due(act, got == 15 * 16 + 6, !stands);
            }
        }
        for (String name : names) {
            reads(name.equals("x") ? 0 : 6, 15, Trial.with(all, "INT z IS " + name + ":", "SKIP"));
            reads(name.equals("c") ? 0 : 6, 15, Trial.with(all, "CHAN OF INT z IS " + name + ":", "SKIP"));
            boolean isProtocol = name.equals("k") || name.equals("l");
            reads(isProtocol ? 0 : 6, 15, Trial.with(all, "CHAN OF " + name + " z:", "SKIP"));
        }
        reads(6, 2, "SEQ i = 0 FOR 1", "  i := 1");
        reads(0, 0, "INT y:", "SEQ i = 0 FOR 1", "  y := i");
    }

    /** "behind ! of a channel of a PROTOCOL with tags the first OUT, if it is a NAME alone, a tag". */
    private static void messagesOfTags() {
        String[] ahead = {"PROTOCOL p", "  CASE", "    a; INT", "    b", ":", "CHAN OF p c:", "INT x:", "[2] INT v:"};
        reads(0, 0, Trial.with(ahead, "c ! b"));
        reads(6, 9, Trial.with(ahead, "c ! x"));
        reads(6, 9, Trial.with(ahead, "c ! c"));
        reads(5, 9, Trial.with(ahead, "c ! n"));
        reads(7, 9, Trial.with(ahead, "c ! v[0]"));
        reads(7, 9, Trial.with(ahead, "c ! (x)"));
        reads(7, 9, Trial.with(ahead, "c ! 1"));
        // "a tag of that PROTOCOL alone": no index, no operation.
        reads(6, 9, Trial.with(ahead, "c ! b[0]"));
        reads(6, 9, Trial.with(ahead, "c ! b + 1"));
        reads(6, 9, Trial.with(ahead, "c ! a; b"));
        reads(6, 9, Trial.with(ahead, "x := b"));
        reads(6, 10, Trial.with(ahead, "CHAN OF INT d:", "d ! b"));
        reads(6, 10, Trial.with(ahead, "c ? CASE", "  x", "    SKIP"));
        reads(5, 10, Trial.with(ahead, "c ? CASE", "  n", "    SKIP"));
    }

    /** "(.. A FORMAL of a FUNCTION has VAL, else 6 at it.)" */
    private static void formalsOfFunctions() {
        reads(0, 0, "INT FUNCTION f(VAL INT a, b, VAL [] BYTE c) IS a:", "SKIP");
        reads(6, 1, "INT FUNCTION f(INT a) IS 1:", "SKIP");
        reads(6, 1, "INT FUNCTION f(VAL INT a, INT b) IS 1:", "SKIP");
        reads(6, 1, "INT FUNCTION f(CHAN OF INT a) IS 1:", "SKIP");
        reads(6, 1, "INT FUNCTION f([] INT a) IS 1:", "SKIP");
        reads(6, 1, "INT FUNCTION f(INT a)", "  VALOF", "    x := 1", "    RESULT a", ":", "SKIP");
    }

    /** "(an E that has a fault has none, and fits; one that is made of it, and has none itself, has its own; so has a
     * FUNCTION always)". */
    private static void faultyFits() {
        String[] ahead = {"INT i:", "BOOL t:", "[3] INT v:", "INT FUNCTION f(VAL INT a) IS a:"};
        reads(9, 5, Trial.with(ahead, "t := 1 / 0"));
        reads(9, 5, Trial.with(ahead, "t := (1 / 0)"));
        reads(9, 5, Trial.with(ahead, "v := 1 / 0"));
        reads(7, 5, Trial.with(ahead, "t := 1 + (1 / 0)"));
        reads(7, 5, Trial.with(ahead, "t := - (1 / 0)"));
        reads(9, 5, Trial.with(ahead, "t := NOT (1 / 0)"));
        reads(9, 5, Trial.with(ahead, "t := 1 = (1 / 0)"));
        reads(9, 5, Trial.with(ahead, "t := t = (1 / 0)"));
        reads(7, 5, Trial.with(ahead, "t := t < (1 / 0)"));
        reads(9, 5, Trial.with(ahead, "t := (1 / 0) OR t"));
        reads(9, 5, Trial.with(ahead, "t := v[3]"));
        reads(7, 5, Trial.with(ahead, "t := v[1 / 0]"));
        reads(7, 5, Trial.with(ahead, "t := INT (1 / 0)"));
        reads(9, 5, Trial.with(ahead, "t := BOOL (1 / 0)"));
        reads(7, 5, Trial.with(ahead, "t := f(1 / 0)"));
        reads(7, 5, Trial.with(ahead, "t := f()"));
        reads(8, 5, Trial.with(ahead, "i := f()"));
        reads(9, 6, Trial.with(ahead, "IF", "  1 / 0", "    SKIP"));
        reads(9, 5, Trial.with(ahead, "WHILE 1 / 0", "  SKIP"));
        reads(9, 5, Trial.with(ahead, "CASE 1 / 0", "  ELSE", "    SKIP"));
        // A CONSTANT of what has a fault there is none: its other uses are not looked at for 9 in other lines.
        reads(9, 1, "VAL INT n IS 1 / 0:", "[n] INT w:", "SKIP");
    }

    /** "a TABLE: an array, all of one TYPE (it has none, and fits, if none of its E's has one; a number it has in any
     * case)". */
    private static void tables() {
        reads(0, 0, "[2] INT v:", "v := [1, 2]");
        reads(7, 2, "[2] INT v:", "v := [1, TRUE]");
        reads(7, 2, "[2] INT v:", "v := [1, 'a']");
        reads(7, 2, "[2] INT v:", "v := ['a', 'b']");
        reads(7, 2, "[2] INT v:", "v := [v, v]");
        reads(7, 2, "[2] INT v:", "v := [1]");
        reads(9, 2, "[2] INT v:", "v := [1, 1 / 0]");
        reads(9, 2, "[2] BOOL v:", "v := [1 / 0, 1 / 0]");
        reads(7, 2, "[2] BOOL v:", "v := [1 / 0, 1]");
        reads(7, 2, "[2] BOOL v:", "v := [1 / 0]");
        reads(9, 2, "INT v:", "v := SIZE [1 / 0]");
        reads(9, 1, "[SIZE [1 / 0, 2]] INT v:", "SKIP");
        reads(7, 1, "VAL [] INT v IS [1, TRUE]:", "SKIP");
    }

    /** "A VAL, or an abbreviation, with an open SPEC has the number of what it was made of, if that has one". */
    private static void numbersOfArrays() {
        String[] ahead = {"[3] INT a:", "[] INT b IS a:", "[] INT c IS b:", "VAL [] INT d IS c:", "VAL [] INT e IS (d):",
            "VAL [] INT f IS [1, 2, 3]:", "VAL [] BYTE g IS \"abc\":", "[4] INT z:"};
        for (String name : new String[] {"a", "b", "c", "d", "e", "f"}) {
            reads(7, 9, Trial.with(ahead, "z := " + name));
            reads(0, 0, Trial.with(ahead, "a := " + name));
            reads(0, 0, Trial.with(ahead, "[SIZE " + name + "] INT n:", "n[2] := 1"));
            reads(9, 10, Trial.with(ahead, "[SIZE " + name + "] INT n:", "n[3] := 1"));
            reads(0, 0, Trial.with(ahead, "z[0] := " + name + "[2]"));
            reads(9, 9, Trial.with(ahead, "z[0] := " + name + "[3]"));
        }
        reads(0, 0, Trial.with(ahead, "BYTE y:", "y := g[2]"));
        reads(9, 10, Trial.with(ahead, "BYTE y:", "y := g[3]"));
    }

    /** "FORMALs with an open SPEC have none"; "(of one without a number: looked at when run)". */
    private static void arraysWithoutNumber() {
        String[] ahead = {"[3] INT z:", "PROC p([] INT a, VAL [] INT b)", "  [] INT c IS a:", "  VAL [] INT d IS b:"};
        for (String name : new String[] {"a", "b", "c", "d"}) {
            reads(0, 0, Trial.with(ahead, "  z := " + name, ":", "SKIP"));
            reads(0, 0, Trial.with(ahead, "  z[0] := " + name + "[1000000]", ":", "SKIP"));
            reads(9, 5, Trial.with(ahead, "  z[0] := " + name + "[-1]", ":", "SKIP"));
            reads(9, 5, Trial.with(ahead, "  [SIZE " + name + "] INT n:", "  SKIP", ":", "SKIP"));
        }
        reads(0, 0, Trial.with(ahead, "  a := b", ":", "SKIP"));
        reads(0, 0, Trial.with(ahead, "  a := [1, 2, 3, 4]", ":", "SKIP"));
        reads(7, 5, Trial.with(ahead, "  a := \"abc\"", ":", "SKIP"));
    }

    /** "An index is an INT, of an array; channels, timers ahead of ? and ! are no arrays without an index." */
    private static void channelsAndTimers() {
        String[] ahead = {"[2] CHAN OF INT c:", "CHAN OF INT d:", "TIMER t:", "INT x:", "[2] INT v:", "BYTE b:"};
        reads(0, 0, Trial.with(ahead, "c[0] ! 1"));
        reads(7, 7, Trial.with(ahead, "c ! 1"));
        reads(7, 7, Trial.with(ahead, "c ? x"));
        reads(7, 7, Trial.with(ahead, "d[0] ! 1"));
        reads(7, 7, Trial.with(ahead, "d[0] ? x"));
        reads(7, 7, Trial.with(ahead, "c['a'] ! 1"));
        reads(7, 7, Trial.with(ahead, "c[TRUE] ! 1"));
        reads(7, 7, Trial.with(ahead, "c[v] ! 1"));
        reads(7, 7, Trial.with(ahead, "t[0] ? x"));
        reads(7, 7, Trial.with(ahead, "t[0] ? AFTER 1"));
        reads(7, 7, Trial.with(ahead, "t ? b"));
        reads(7, 7, Trial.with(ahead, "t ? v"));
        reads(0, 0, Trial.with(ahead, "t ? v[1]"));
        reads(7, 7, Trial.with(ahead, "t ? AFTER 'a'"));
        reads(7, 7, Trial.with(ahead, "x[0] := 1"));
        reads(7, 7, Trial.with(ahead, "v[b] := 1"));
        reads(7, 7, Trial.with(ahead, "x := v[v]"));
    }

    /** "a channel of the same KIND"; ": the same". */
    private static void sameKind() {
        String[] ahead = {"PROTOCOL k IS INT:", "PROTOCOL l IS INT:", "CHAN OF k a:", "CHAN OF INT b:",
                "[2] CHAN OF k c:",
            "PROC p(CHAN OF k x)", "  SKIP", ":", "PROC q([] CHAN OF k x)", "  SKIP", ":"};
        reads(0, 0, Trial.with(ahead, "p(a)"));
        reads(0, 0, Trial.with(ahead, "p(c[1])"));
        reads(7, 12, Trial.with(ahead, "p(b)"));
        reads(7, 12, Trial.with(ahead, "p(c)"));
        reads(0, 0, Trial.with(ahead, "q(c)"));
        reads(7, 12, Trial.with(ahead, "q(a)"));
        reads(7, 13, Trial.with(ahead, "CHAN OF l m:", "p(m)"));
        reads(7, 12, Trial.with(ahead, "CHAN OF l m IS a:", "SKIP"));
        reads(7, 12, Trial.with(ahead, "CHAN OF INT m IS a:", "SKIP"));
        reads(7, 12, Trial.with(ahead, "CHAN OF k m IS c:", "SKIP"));
        reads(7, 12, Trial.with(ahead, "[] CHAN OF k m IS a:", "SKIP"));
        reads(0, 0, Trial.with(ahead, "[] CHAN OF k m IS c:", "p(m[0])"));
    }

    /** "8 Not as many as there should be (parameters, parts of a message, both sides of := ; TYPES are looked at as far
     * as both go)". */
    private static void notAsMany() {
        String[] ahead = {"PROTOCOL k IS INT; BOOL:", "CHAN OF k c:", "PROC p(VAL INT a, VAL BOOL b)", "  SKIP", ":",
            "INT FUNCTION f(VAL INT a, VAL BOOL b) IS a:", "INT x:", "BOOL t:", "PROC q()", "  SKIP", ":"};
        reads(8, 12, Trial.with(ahead, "p()"));
        reads(8, 12, Trial.with(ahead, "p(1)"));
        reads(0, 0, Trial.with(ahead, "p(1, TRUE)"));
        reads(8, 12, Trial.with(ahead, "p(1, TRUE, 2)"));
        reads(7, 12, Trial.with(ahead, "p(TRUE)"));
        reads(7, 12, Trial.with(ahead, "p(1, 2, 3)"));
        reads(8, 12, Trial.with(ahead, "q(1)"));
        reads(8, 12, Trial.with(ahead, "x := f()"));
        reads(8, 12, Trial.with(ahead, "x := f(1)"));
        reads(8, 12, Trial.with(ahead, "x := f(1, TRUE, 2)"));
        reads(7, 12, Trial.with(ahead, "x := f(TRUE)"));
        reads(8, 12, Trial.with(ahead, "c ! 1"));
        reads(8, 12, Trial.with(ahead, "c ! 1; TRUE; 1"));
        reads(7, 12, Trial.with(ahead, "c ! TRUE"));
        reads(7, 12, Trial.with(ahead, "c ! 1; 1; 1"));
        reads(8, 12, Trial.with(ahead, "c ? x"));
        reads(8, 12, Trial.with(ahead, "c ? x; t; x"));
        reads(7, 12, Trial.with(ahead, "c ? t"));
        reads(8, 12, Trial.with(ahead, "x, t := 1"));
        reads(8, 12, Trial.with(ahead, "x := 1, TRUE"));
        reads(7, 12, Trial.with(ahead, "x, t := TRUE"));
        reads(7, 12, Trial.with(ahead, "x := TRUE, TRUE"));
        reads(8, 12, Trial.with(ahead, "screen ! 'a'; 'b'"));
    }

    /** "the E of [ E ] of a DECLARATION or PART (1 .. 200)". */
    private static void elementsOfArrays() {
        for (String type : new String[] {"INT", "BYTE", "BOOL", "CHAN OF INT"}) {
            reads(9, 1, "[-1] " + type + " a:", "SKIP");
            reads(9, 1, "[0] " + type + " a:", "SKIP");
            reads(0, 0, "[1] " + type + " a:", "SKIP");
            reads(0, 0, "[200] " + type + " a:", "SKIP");
            reads(9, 1, "[201] " + type + " a:", "SKIP");
            reads(9, 1, "[MOSTPOS INT] " + type + " a:", "SKIP");
            reads(9, 1, "[MOSTNEG INT] " + type + " a:", "SKIP");
        }
        reads(0, 0, "VAL INT n IS 100:", "[n * 2] INT a:", "SKIP");
        reads(9, 2, "VAL INT n IS 100:", "[(n * 2) + 1] INT a:", "SKIP");
        // A VAL is no array of a DECLARATION's number: it may have more.
        reads(0, 0, "VAL [] INT v IS [" + "1, ".repeat(200) + "1]:", "SKIP");
    }

    private static void elementsOfParts() {
        reads(9, 1, "PROTOCOL p IS [0] INT:", "SKIP");
        reads(0, 0, "PROTOCOL p IS [1] INT; [200] BYTE:", "SKIP");
        reads(9, 1, "PROTOCOL p IS INT; [201] BYTE:", "SKIP");
        reads(9, 1, "PROTOCOL p IS [-1] INT:", "SKIP");
        reads(9, 4, "PROTOCOL p", "  CASE", "    a; [200] INT", "    b; [201] INT", ":", "SKIP");
        reads(9, 3, "PROTOCOL p", "  CASE", "    a; [0] INT", "    b; [201] INT", ":", "SKIP");
        reads(7, 1, "PROTOCOL p IS [TRUE] INT:", "SKIP");
    }

    /** "base and count of a PAR's, or ALT's, REPLICATOR (count 0 .. 64)". */
    private static void countsOfReplicators() {
        String[] body = {"  SKIP", "    SKIP"};
        for (String head : new String[] {"PAR", "ALT", "PRI ALT"}) {
            String[] inner = head.equals("PAR") ? new String[] {body[0]} : body;
            reads(9, 1, Trial.with(new String[] {head + " i = 0 FOR -1"}, inner));
            reads(0, 0, Trial.with(new String[] {head + " i = 0 FOR 0"}, inner));
            reads(0, 0, Trial.with(new String[] {head + " i = 0 FOR 64"}, inner));
            reads(9, 1, Trial.with(new String[] {head + " i = 0 FOR 65"}, inner));
            reads(9, 1, Trial.with(new String[] {head + " i = 0 FOR MOSTPOS INT"}, inner));
            reads(0, 0, Trial.with(new String[] {head + " i = MOSTNEG INT FOR 2"}, inner));
            reads(0, 0, Trial.with(new String[] {head + " i = MOSTPOS INT FOR 64"}, inner));
            reads(9, 2, Trial.with(new String[] {"INT n:", head + " i = n FOR 1"}, inner));
            reads(9, 2, Trial.with(new String[] {"INT n:", head + " i = 0 FOR n"}, inner));
            reads(0, 0, Trial.with(new String[] {"VAL INT n IS 64:", head + " i = n FOR n"}, inner));
        }
        // A SEQ's is free: its count is looked at in the run.
        reads(0, 0, "INT n:", "SEQ i = n FOR n", "  SKIP");
        reads(0, 0, "SEQ i = 0 FOR -1", "  SKIP");
        reads(0, 0, "SEQ i = 0 FOR MOSTPOS INT", "  SKIP");
    }

    /** "CONSTANT: made of NUMBERS, CHARACTERS, TRUE, FALSE, MOSTPOS, MOSTNEG, VALs of such (no arrays), SIZE of arrays
     * that have a number, and operations on these (no FUNCTIONS)." */
    private static void notConstant() {
        String[] ahead = {"INT x:", "[3] INT a:", "VAL INT n IS 2:", "VAL INT m IS x:", "VAL [] INT v IS [1, 2]:",
            "INT FUNCTION f() IS 2:", "VAL BYTE b IS 'a':", "VAL BOOL t IS TRUE:"};
        for (String e : new String[] {"2", "n", "n + 1", "SIZE a", "SIZE v", "SIZE \"ab\"", "SIZE [x, x]", "INT b",
                "INT t",
            "INT (t AND TRUE)", "INT (NOT FALSE)", "(n << 2) \\/ 1", "- (-3)", "~ (-3)", "MINUS (-3)", "INT ('a' = b)",
            "INT (5 AFTER 3)", "SIZE (a)", "(MOSTPOS INT) PLUS ((MOSTNEG INT) + 4)", "7 \\ 4"}) {
            reads(0, 0, Trial.with(ahead, "[" + e + "] INT z:", "SKIP"));
        }
        for (String e : new String[] {"x", "m", "v[0]", "f()", "n + x", "INT (x = x)", "a[0]"}) {
            reads(9, 9, Trial.with(ahead, "[" + e + "] INT z:", "SKIP"));
        }
        reads(9, 2, "SEQ i = 1 FOR 3", "  [i] INT z:", "  SKIP");
        reads(9, 2, "PROC p(VAL INT n)", "  [n] INT z:", "  SKIP", ":", "SKIP");
        // What a VAL is made of counts, also through another one.
        reads(0, 0, "VAL INT n IS 2:", "VAL INT m IS n + 1:", "[m] INT z:", "z[2] := 1");
        reads(9, 3, "INT x:", "VAL INT n IS x:", "PAR i = n FOR 1", "  SKIP");
    }

    /** "a CONSTANT E that would be a FAULT of running (also within others)". */
    private static void constantFaults() {
        String[] bad = {"(MOSTPOS INT) + 1", "(MOSTNEG INT) + (-1)", "(MOSTNEG INT) - 1", "(MOSTPOS INT) - (-1)",
            "46341 * 46341", "(MOSTNEG INT) * (-1)", "- (MOSTNEG INT)", "1 / 0", "1 \\ 0", "(MOSTNEG INT) / (-1)",
            "INT (BYTE 256)", "INT (BYTE (-1))", "INT (BOOL 2)", "INT (BOOL (-1))", "1 << 33", "1 << (-1)", "1 >> 33",
            "1 >> (-1)"};
        String[] good = {"(MOSTPOS INT) + 0", "(MOSTNEG INT) + 0", "(MOSTNEG INT) - 0", "46340 * 46340",
                "- (MOSTPOS INT)",
            "0 / 1", "(MOSTNEG INT) \\ (-1)", "(MOSTNEG INT) / 1", "INT (BYTE 255)", "INT (BYTE 0)", "INT (BOOL 1)",
            "INT (BOOL 0)", "1 << 32", "1 << 0", "1 >> 32", "1 >> 0", "(MOSTPOS INT) PLUS 1", "(MOSTNEG INT) MINUS 1",
            "46341 TIMES 46341", "MINUS (MOSTNEG INT)"};
        for (String e : bad) {
            reads(9, 2, "INT x:", "x := " + e);
            reads(9, 2, "INT x:", "x := x + (" + e + ")");
            reads(9, 2, "INT x:", "x := INT (x = (" + e + "))");
            reads(9, 2, "INT x:", "x := SIZE [x, " + e + "]");
        }
        for (String e : good) {
            reads(0, 0, "INT x:", "x := " + e);
        }
        // What is not CONSTANT is looked at in the run.
        reads(0, 0, "INT x:", "x := x / 0");
        reads(0, 0, "INT x:", "x := x << 33");
        reads(9, 1, "VAL INT n IS 1 / 0:", "SKIP");
        reads(9, 1, "SEQ i = 0 FOR 1 / 0", "  SKIP");
        reads(9, 2, "IF", "  (1 / 0) = 1", "    SKIP");
        reads(9, 1, "screen ! BYTE 256");
    }

    /** "a constant index below 0, or outside of an array that has a number". */
    private static void constantIndexes() {
        String[] ahead = {"[3] INT v:", "[2] CHAN OF INT c:", "INT x:", "VAL INT n IS 3:", "PROC p(INT a)", "  SKIP", ":",
            "PROC q(CHAN OF INT a)", "  SKIP", ":"};
        for (String form : new String[] {"v[@] := 1", "x := v[@]", "c[0] ? v[@]", "p(v[@])"}) {
            reads(9, 11, Trial.with(ahead, form.replace("@", "-1")));
            reads(0, 0, Trial.with(ahead, form.replace("@", "0")));
            reads(0, 0, Trial.with(ahead, form.replace("@", "n - 1")));
            reads(9, 11, Trial.with(ahead, form.replace("@", "n")));
            reads(9, 11, Trial.with(ahead, form.replace("@", "MOSTPOS INT")));
            reads(9, 11, Trial.with(ahead, form.replace("@", "MOSTNEG INT")));
            reads(0, 0, Trial.with(ahead, form.replace("@", "x")));
        }
        for (String form : new String[] {"c[@] ! 1", "c[@] ? x", "q(c[@])"}) {
            reads(9, 11, Trial.with(ahead, form.replace("@", "-1")));
            reads(0, 0, Trial.with(ahead, form.replace("@", "1")));
            reads(9, 11, Trial.with(ahead, form.replace("@", "2")));
        }
        reads(9, 11, Trial.with(ahead, "INT y IS v[3]:", "SKIP"));
        reads(0, 0, Trial.with(ahead, "INT y IS v[2]:", "SKIP"));
        reads(9, 11, Trial.with(ahead, "CHAN OF INT y IS c[2]:", "SKIP"));
        reads(9, 12, Trial.with(ahead, "ALT", "  c[2] ? x", "    SKIP"));
    }

    /** "more than 20,000 cells of variables and channels in all DECLARATIONS (each counts once, as they stand; at the
     * one that is too much)". */
    private static void cellsInAll() {
        String ten = "a, b, c, d, e, f, g, h, i, j";
        String[] full = new String[10];
        Arrays.fill(full, "[200] INT " + ten + ":");
        full[4] = "[200] BYTE " + ten + ":";
        full[5] = "[200] CHAN OF BOOL " + ten + ":";
        reads(0, 0, Trial.with(full, "SKIP"));
        reads(9, 11, Trial.with(full, "INT x:", "SKIP"));
        reads(9, 11, Trial.with(full, "CHAN OF INT x:", "SKIP"));
        reads(9, 11, Trial.with(full, "INT x:", "INT y:", "SKIP"));
        // None for VALs, abbreviations, TIMERs, FORMALs and PROTOCOLs.
        reads(0, 0, Trial.with(full, "VAL [] INT x IS a:", "[] INT y IS a:", "TIMER t:", "PROTOCOL q IS [200] INT:",
                "PROC r(VAL [] INT w)", "  SKIP", ":", "SEQ z = 0 FOR 3", "  SKIP"));
        // One that stands in a PROC, or in a branch, counts where it stands, once, called or not.
        reads(9, 12, Trial.with(full, "PROC p()", "  INT x:", "  SKIP", ":", "SKIP"));
        reads(9, 13, Trial.with(full, "IF", "  TRUE", "    INT x:", "    SKIP"));
        full[9] = "[200] INT a, b, c, d, e, f, g, h, i:";
        reads(0, 0, Trial.with(full, "SEQ", "  [199] INT x:", "  SKIP", "  INT x:", "  SKIP"));
        reads(9, 14, Trial.with(full, "SEQ", "  [199] INT x:", "  SKIP", "  INT x, y:", "  SKIP"));
        reads(9, 11, Trial.with(full, "[101] INT x, y:", "INT z:", "SKIP"));
    }

    /** "or more than 400 NAMES in them all (as count(2) tells; likewise)". */
    private static void namesInAll() {
        String twenty = "a, b, c, d, e, f, g, h, i, j, k, l, m, n, o, p, q, r, s, t";
        String[] full = new String[20];
        Arrays.fill(full, "INT " + twenty + ":");
        full[3] = "TIMER " + twenty + ":";
        full[4] = "CHAN OF INT " + twenty + ":";
        reads(0, 0, Trial.with(full, "SEQ z = 0 FOR 1", "  SKIP"));
        reads(9, 21, Trial.with(full, "INT z:", "SKIP"));
        reads(9, 21, Trial.with(full, "TIMER z:", "SKIP"));
        reads(9, 21, Trial.with(full, "VAL INT z IS 1:", "SKIP"));
        reads(9, 21, Trial.with(full, "INT z IS a:", "SKIP"));
        reads(9, 21, Trial.with(full, "PROTOCOL z IS INT:", "SKIP"));
        reads(9, 21, Trial.with(full, "PROTOCOL z", "  CASE", "    y", ":", "SKIP"));
        reads(9, 21, Trial.with(full, "PROC z()", "  SKIP", ":", "SKIP"));
        reads(9, 21, Trial.with(full, "INT FUNCTION z() IS 1:", "SKIP"));
        full[19] = "INT a, b, c, d, e, f, g, h, i, j, k, l, m, n, o, p, q, r, s:";
        // FORMALs, tags and REPLICATORS' names are not told.
        reads(0, 0, Trial.with(full, "PROC z(INT x, y)", "  SKIP", ":", "SKIP"));
        reads(0, 0, Trial.with(full, "PROTOCOL z", "  CASE", "    x", "    y", ":", "SKIP"));
        reads(9, 22, Trial.with(full, "PROC z(INT x, y)", "  INT w:", "  SKIP", ":", "SKIP"));
        reads(9, 21, Trial.with(full, "INT w, x:", "INT y:", "SKIP"));
        MeetingHouse house = Trial.house(Trial.lines(Trial.with(full, "PROC z(INT x, y)", "  SKIP", ":", "SKIP")));
        Trial.due("read()", house.read(), 0);
        Trial.due("count(2)", house.count(2), 400);
    }

    /** "more than 1,000 cells in all PARTs of a PROTOCOL IS, or of a tag with the tag itself (at its line)". */
    private static void cellsOfMessages() {
        String five = "[200] INT; [200] BYTE; [200] BOOL; [200] INT; ";
        reads(0, 0, "PROTOCOL p IS " + five + "[200] INT:", "SKIP");
        reads(0, 0, "PROTOCOL p IS " + five + "[199] INT; BYTE:", "SKIP");
        reads(9, 1, "PROTOCOL p IS " + five + "[200] INT; BYTE:", "SKIP");
        reads(9, 1, "PROTOCOL p IS " + five + "[199] INT; BYTE; BOOL:", "SKIP");
        reads(0, 0, "PROTOCOL p", "  CASE", "    a; " + five + "[199] INT", "    b; " + five + "[199] INT", ":", "SKIP");
        reads(9, 4, "PROTOCOL p", "  CASE", "    a; " + five + "[199] INT", "    b; " + five + "[200] INT", ":", "SKIP");
        reads(9, 3, "PROTOCOL p", "  CASE", "    a; " + five + "[199] INT; BYTE", "    b", ":", "SKIP");
    }

    /** "10 A CASE's option that was there already; a tag twice in VARIANTS." */
    private static void optionsTwice() {
        reads(0, 0, "CASE 1", "  0, 1", "    SKIP", "  2", "    SKIP", "  -1", "    SKIP");
        reads(10, 2, "CASE 1", "  0, 0", "    SKIP");
        reads(10, 4, "CASE 1", "  0", "    SKIP", "  1, 0", "    SKIP");
        reads(10, 4, "CASE 1", "  3", "    SKIP", "  1 + 2", "    SKIP", "  3", "    SKIP");
        reads(10, 4, "CASE 'a'", "  'a'", "    SKIP", "  BYTE 97", "    SKIP");
        reads(0, 0, "CASE 1", "  1", "    SKIP", "  ELSE", "    CASE 1", "      1", "        SKIP");
        reads(9, 2, "CASE 1", "  0, 1 / 0", "    SKIP");
        reads(9, 3, "INT x:", "CASE 1", "  x, x", "    SKIP");
        String[] ahead = {"PROTOCOL p", "  CASE", "    a", "    b", ":", "CHAN OF p c:"};
        reads(0, 0, Trial.with(ahead, "c ? CASE", "  a", "    SKIP", "  b", "    SKIP"));
        reads(10, 12, Trial.with(ahead, "c ? CASE", "  a", "    SKIP", "  b", "    SKIP", "  a", "    SKIP"));
        reads(0, 0, Trial.with(ahead, "c ? CASE", "  a", "    c ? CASE", "      a", "        SKIP"));
        reads(10, 11, Trial.with(ahead, "ALT", "  c ? CASE", "    a", "      SKIP", "    a", "      SKIP"));
        reads(0, 0, Trial.with(ahead, "ALT", "  c ? CASE", "    a", "      SKIP", "  c ? CASE", "    a", "      SKIP"));
    }

    /** Names in every E of a DECLARATION are looked for. */
    private static void namesOfDeclarations() {
        for (String line : new String[] {"[n] INT a:", "[n] CHAN OF INT a:", "VAL INT a IS n:",
                "VAL [] INT a IS [1, n]:", "INT a IS n:",
            "CHAN OF INT a IS n:", "CHAN OF n a:", "[2] CHAN OF n a:", "PROTOCOL a IS [n] INT:",
                    "PROTOCOL a IS INT; [n] INT:",
            "INT FUNCTION a() IS n:", "INT FUNCTION a(VAL INT b) IS n:"}) {
            reads(5, 1, line, "SKIP");
        }
        reads(5, 1, "PROC a(CHAN OF n b)", "  SKIP", ":", "SKIP");
        reads(5, 4, "PROTOCOL a", "  CASE", "    b; INT", "    c; [n] INT", ":", "SKIP");
        reads(5, 2, "[3] INT v:", "INT a IS v[n]:", "SKIP");
    }

    /** "or NAME (like the one ahead ..": its KIND, too. */
    private static void kindsOfFormals() {
        String[] ahead = {"PROTOCOL k IS INT:", "PROC p(CHAN OF k a, b, [] CHAN OF k c, d)", "  SKIP", ":",
                "CHAN OF k x, y:",
            "[2] CHAN OF k v, w:", "CHAN OF INT z:", "[2] CHAN OF INT u:"};
        reads(0, 0, Trial.with(ahead, "p(x, y, v, w)"));
        reads(7, 9, Trial.with(ahead, "p(x, z, v, w)"));
        reads(7, 9, Trial.with(ahead, "p(x, y, v, u)"));
        reads(7, 9, Trial.with(ahead, "p(z, y, v, w)"));
        reads(7, 9, Trial.with(ahead, "p(x, y, u, w)"));
        reads(0, 0, "PROTOCOL k", "  CASE", "    g", ":", "PROC p(CHAN OF k a, b)", "  b ! g", ":", "SKIP");
    }

    private static void tagsOfArrays() {
        String[] ahead = {"PROTOCOL k", "  CASE", "    g", "    h; INT", ":", "[2] CHAN OF k c:", "INT x:"};
        reads(0, 0, Trial.with(ahead, "c[0] ! g"));
        reads(7, 8, Trial.with(ahead, "c ! g"));
        reads(7, 8, Trial.with(ahead, "c ? CASE", "  g", "    SKIP"));
        reads(0, 0, Trial.with(ahead, "c[1] ? CASE", "  g", "    SKIP"));
        reads(7, 8, Trial.with(ahead, "c[0] ? x"));
        reads(6, 9, Trial.with(ahead, "c[0] ? CASE", "  h; c[0]", "    SKIP"));
        reads(7, 9, Trial.with(ahead, "c[0] ? CASE", "  h; x[0]", "    SKIP"));
    }

    /** What stands beside a fault is looked at for its own. */
    private static void partsBesideFaults() {
        String[] ahead = {"PROTOCOL k", "  CASE", "    g", "    h; INT", ":", "[2] CHAN OF INT c:", "[2] CHAN OF k d:",
                "INT x:", "[2] INT v:",
            "PROTOCOL l", "  CASE", "    i; INT", ":"};
        reads(9, 14, Trial.with(ahead, "c[2] ! TRUE"));
        reads(7, 14, Trial.with(ahead, "c[2] ! 1 + TRUE"));
        reads(9, 14, Trial.with(ahead, "c[2] ? x"));
        reads(7, 14, Trial.with(ahead, "c[2] ? v[TRUE]"));
        reads(7, 14, Trial.with(ahead, "c[0] ! 1; 1 + TRUE"));
        reads(8, 14, Trial.with(ahead, "c[0] ! 1; 1 / 0"));
        reads(9, 14, Trial.with(ahead, "d[2] ! g"));
        reads(7, 14, Trial.with(ahead, "d[0] ! i; 1"));
        reads(7, 15, Trial.with(ahead, "d[0] ? CASE", "  i; x", "    SKIP"));
        reads(9, 14, Trial.with(ahead, "d[2] ? CASE", "  h; x", "    SKIP"));
    }

    private static String number(int v) {
        return v == Integer.MIN_VALUE ? "(MOSTNEG INT)" : v < 0 ? "(" + v + ")" : "" + v;
    }

    /** A CONSTANT has the value that the run would have: both are told by SIZE and by cells. */
    private static void constantValues() {
        int[] values = {0, 1, 2, 3, -1, -7, 31, 32, 100, Integer.MAX_VALUE, Integer.MIN_VALUE};
        String[] ops = {"+", "-", "*", "/", "\\", "PLUS", "MINUS", "TIMES", "/\\", "\\/", "><", "<<", ">>", "=", "<>",
                "<", "<=", ">", ">=", "AFTER"};
        for (String op : ops) {
            for (int a : values) {
                for (int b : values) {
                    Long want = worked(op, a, b);
                    String e = number(a) + " " + op + " " + number(b);
                    boolean isTruth = "= <> < <= > >= AFTER".contains(op) && !op.equals("<<") && !op.equals(">>");
                    String whole = isTruth ? "INT (" + e + ")" : e;
                    if (want == null) {
                        reads(9, 2, "INT r:", "r := " + whole);
                    } else {
                        Trial.due(e, Trial.ran(1, "INT r:", "r := " + whole).cell(0), want);
                        MeetingHouse run = Trial.ran(1, "INT r, a, b:", "SEQ", "  a, b := " + number(a) + ", "
                                + number(b),
                                "  r := " + whole.replace(e, "a " + op + " b"));
                        Trial.due(e + " in the run", run.cell(0), want);
                    }
                }
            }
        }
        String[][] truths = {{"TRUE AND TRUE", "1"}, {"TRUE AND FALSE", "0"}, {"FALSE AND TRUE", "0"},
                {"TRUE AND TRUE AND FALSE", "0"},
            {"TRUE AND TRUE AND TRUE", "1"}, {"FALSE OR FALSE", "0"}, {"FALSE OR TRUE", "1"}, {"TRUE OR FALSE", "1"},
            {"FALSE OR FALSE OR TRUE", "1"}, {"FALSE OR FALSE OR FALSE", "0"}, {"NOT TRUE", "0"}, {"NOT FALSE", "1"},
                    {"TRUE = FALSE", "0"},
            {"TRUE <> FALSE", "1"}, {"'a' = 'a'", "1"}, {"'a' <= 'a'", "1"}, {"'a' < 'b'", "1"}, {"'b' >= 'c'", "0"}};
        for (String[] truth : truths) {
            Trial.due(truth[0], Trial.ran(1, "INT r:", "r := INT (" + truth[0] + ")").cell(0), Long.parseLong(truth[1]));
            reads(truth[1].equals("1") ? 0 : 9, 1, "[INT (" + truth[0] + ")] INT a:", "SKIP");
            MeetingHouse run = Trial.ran(1, "INT r:", "BOOL t, f:", "BYTE a, b, c:", "SEQ",
                    "  t, a, b, c := TRUE, 'a', 'b', 'c'",
                    "  r := INT (" + truth[0].replace("TRUE", "t").replace("FALSE", "f").replace("'", "") + ")");
            Trial.due(truth[0] + " in the run", run.cell(0), Long.parseLong(truth[1]));
        }
    }

    /** What an operation comes to; null for a FAULT. */
    private static Long worked(String op, int a, int b) {
        long v;
        switch (op) {
            case "+":
                v = (long) a + b;
                break;
            case "-":
                v = (long) a - b;
                break;
            case "*":
                v = (long) a * b;
                break;
            case "/":
                if (b == 0) {
                    return null;
                }
                v = (long) a / b;
                break;
            case "\\":
                if (b == 0) {
                    return null;
                }
                v = (long) a % b;
                break;
            case "<<":
                if (b < 0 || b > 32) {
                    return null;
                }
                v = b == 32 ? 0 : a << b;
                break;
            case ">>":
                if (b < 0 || b > 32) {
                    return null;
                }
                v = b == 32 ? 0 : a >>> b;
                break;
            default:
                return (long) plain(op, a, b);
        }
        return v < Integer.MIN_VALUE || v > Integer.MAX_VALUE ? null : v;
    }

    private static int plain(String op, int a, int b) {
        switch (op) {
            case "PLUS":
                return a + b;
            case "MINUS":
                return a - b;
            case "TIMES":
                return a * b;
            case "/\\":
                return a & b;
            case "\\/":
                return a | b;
            case "><":
                return a ^ b;
            case "=":
                return a == b ? 1 : 0;
            case "<>":
                return a != b ? 1 : 0;
            case "<":
                return a < b ? 1 : 0;
            case "<=":
                return a <= b ? 1 : 0;
            case ">":
                return a > b ? 1 : 0;
            case ">=":
                return a >= b ? 1 : 0;
            default:
                return a - b > 0 ? 1 : 0;
        }
    }
}
