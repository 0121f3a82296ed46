import java.util.ArrayList;
import java.util.List;
import java.util.Random;

/** One object for many texts and many runs: what was read, fed or run before leaves nothing behind. */
public final class AnewTest {
    private static final String[] TEXTS = {
        Trial.lines("VAL [] BYTE s IS \"Hello*n\":", "SEQ i = 0 FOR SIZE s", "  screen ! s[i]"),
        Trial.lines("[4] INT v:", "[5] CHAN OF INT c:", "PAR", "  c[0] ! 1", "  PAR i = 0 FOR 4", "    SEQ",
                "      c[i] ? v[i]",
                "      c[i + 1] ! v[i] + 1", "  INT x:", "  SEQ", "    c[4] ? x", "    screen ! BYTE (x + 48)"),
        Trial.lines("PROTOCOL p", "  CASE", "    a", "    b; INT", ":", "CHAN OF p c:", "INT x:", "PAR", "  SEQ",
                "    c ! b; 7",
                "    c ! a", "  SEQ i = 0 FOR 2", "    c ? CASE", "      a", "        x := x + 1", "      b; x",
                        "        SKIP"),
        Trial.lines("INT x:", "PROC p(INT a, VAL INT b)", "  PROC q()", "    a := a + b", "  :", "  SEQ", "    q()",
                "    q()", ":", "SEQ",
                "  p(x, 3)", "  keyboard ? x", "  STOP"),
        Trial.lines("TIMER t:", "INT x, y:", "PAR", "  ALT", "    t ? AFTER 30", "      x := 1", "    keyboard ? y",
                "      x := 2",
                "  PROC r()", "    PROC s()", "      STOP", "    :", "    s()", "  :", "  r()"),
        Trial.lines("INT a:", "VAL INT b IS 7 / a:", "INT c, d, e, f, g, h:", "SKIP"),
        Trial.lines("INT FUNCTION f(VAL INT n)", "  VALOF", "    SEQ i = 0 FOR n", "      SKIP", "    RESULT n", ":",
                "INT x:", "SEQ",
                "  x := f(40)", "  VAL INT y IS f(6):", "  x := y"),
        Trial.lines("INT FUNCTION f(VAL INT n)", "  VALOF", "    SEQ i = 0 FOR n", "      SKIP", "    RESULT n", ":",
                "VAL INT y IS f(49):", "INT x:", "x := y"),
        Trial.lines("INT a, b, c, d, e, f, g, h, i, j, k, l, m, n, o, p:", "[9] INT v, w:", "PAR i = 0 FOR 9",
                "  INT q, r, s:", "  SEQ",
                "    q, r, s := i, i * 2, i * 3", "    v[i], w[i] := q + r, s"),
        Trial.lines("PROC p(INT a, b)", "  SKIP", ":", "[9] INT v:", "SEQ i = 0 FOR 3", "  p(v[i], v[i + 3])"),
        Trial.lines("PROC p(INT a, b)", "  SKIP", ":", "[9] INT v:", "SEQ i = 0 FOR 3", "  p(v[i], v[i + 1])"),
        Trial.lines("PROC p(INT a, b)", "  SKIP", ":", "[9] INT v:", "PAR i = 0 FOR 3", "  v[i] := 1"),
        Trial.lines("CHAN OF INT p, q:", "INT x:", "PAR", "  p ! 1", "  q ! 2", "  STOP"),
        Trial.lines("INT x, y:", "PAR", "  x := 1", "  y := x"),
        Trial.lines("INT x, x:", "SKIP"),
        Trial.lines("INT x:", "x := ((((((((((((((((((((1) @"),
        Trial.lines("INT x:", "x := " + "(".repeat(20) + "1" + ")".repeat(20)),
        Trial.lines("[200] INT a, b, c, d, e, f, g, h, i, j:", "[200] INT k, l, m, n, o, p, q, r, s, t:", "x := 1"),
        Trial.lines("INT a1, a2, a3, a4, a5, a6, a7, a8, a9, b1, b2, b3, b4, b5, b6, b7, b8, b9:", "a1 := TRUE"),
        "",
        "SKIP",
        "@",
    };

    public static void main(String[] args) {
        manyTexts();
        manyRuns();
        fullTexts();
        afterOpenBrackets();
        placesOfAnEarlierPar();
        manyStrings();
        manyCells();
        manyCalls();
        Trial.finish("AnewTest");
    }

    /** What an object answers for the text that it has read last. */
    private static List<Integer> answers(MeetingHouse house, int fault, int seed) {
        List<Integer> all = new ArrayList<>();
        all.add(fault);
        for (int what = 0; what <= 3; what++) {
            all.add(house.count(what));
        }
        if (fault == 0) {
            house.begin(seed);
            ask(house, all);
            all.add(Trial.run(house, 9));
            ask(house, all);
            all.add(house.key(65) ? 1 : 0);
            all.add(Trial.run(house, 2000));
            ask(house, all);
        }
        return all;
    }

    private static void ask(MeetingHouse house, List<Integer> all) {
        for (int what = 3; what <= 13; what++) {
            all.add(house.count(what));
        }
        for (int p = 0; p < 5; p++) {
            all.add(house.process(p, 0));
            all.add(house.process(p, 1));
            all.add(house.process(p, 5));
        }
        for (int i = 0; i < 10; i++) {
            all.add(house.cell(i));
        }
        all.add(house.output(house.count(10) - 1));
        all.add(house.meeting(0, 6));
    }

    private static void same(String what, List<Integer> got, List<Integer> want) {
        Trial.due(what + ": as many answers", got.size(), want.size());
        for (int i = 0; i < Math.min(got.size(), want.size()); i++) {
            Trial.due(what + ", answer " + i, got.get(i), want.get(i));
        }
    }

    /** "The tape's text becomes the program": an object that has read others answers as a new one does. */
    private static void manyTexts() {
        Random random = new Random(7);
        for (int round = 0; round < 300; round++) {
            MeetingHouse old = new MeetingHouse();
            for (int k = 0; k < 3; k++) {
                String text = TEXTS[random.nextInt(TEXTS.length)];
                int seed = random.nextInt();
                Trial.feed(old, text);
                List<Integer> got = answers(old, old.read(), seed);
                MeetingHouse fresh = Trial.house(text);
                same("text " + k + "\n" + text, got, answers(fresh, fresh.read(), seed));
            }
        }
    }

    /** "A run begins anew". */
    private static void manyRuns() {
        for (String text : TEXTS) {
            MeetingHouse old = Trial.house(text);
            if (old.read() == 0) {
                for (int seed = 1; seed < 5; seed++) {
                    MeetingHouse fresh = Trial.house(text);
                    same("run with seed " + seed + " of\n" + text, answers(old, 0, seed), answers(fresh, fresh.read(),
                            seed));
                }
            }
        }
    }

    /** Texts that fill the tape, one behind the other, as many as 512 calls have room for. */
    private static void fullTexts() {
        MeetingHouse house = new MeetingHouse();
        for (int k = 0; k < 2; k++) {
            StringBuilder full = new StringBuilder("INT x:\nSEQ\n  x := SIZE [");
            while (full.length() < 4800) {
                full.append("-x,");
            }
            full.append("-x]\n  screen ! '").append((char) ('a' + k)).append("'\n");
            Trial.feed(house, full.toString());
            Trial.due("read()", house.read(), 0);
            house.begin(1);
            Trial.run(house, 9);
            Trial.due("ENDED", house.count(4), 2);
            Trial.due("output(0)", house.output(0), 'a' + k);
        }
    }

    /** "the 21st ( , [ or CONVERSION that is open in its line": not of a text that was read before. */
    private static void afterOpenBrackets() {
        MeetingHouse house = new MeetingHouse();
        for (String open : new String[] {"(".repeat(20), "INT ".repeat(20), "x[".repeat(20)}) {
            Trial.feed(house, "INT x:\nx := " + open + "+\n");
            Trial.due("read()", house.read(), 16 * 2 + 2);
            Trial.feed(house, "INT x:\nx := " + "(".repeat(20) + "1" + ")".repeat(20) + "\n");
            Trial.due("read()", house.read(), 0);
            Trial.feed(house, "INT x:\nx := " + "(".repeat(21) + "1" + ")".repeat(21) + "\n");
            Trial.due("read()", house.read(), 16 * 2 + 3);
        }
    }

    /** A PAR of the text ahead has had its own REPLICATOR; a call of the next text looks at all values of its names. */
    private static void placesOfAnEarlierPar() {
        MeetingHouse house = new MeetingHouse();
        for (int k = 0; k < 3; k++) {
            Trial.feed(house, TEXTS[11]);
            Trial.due("read()", house.read(), 0);
            Trial.feed(house, TEXTS[10]);
            Trial.due("read()", house.read(), 16 * 6 + 12);
        }
    }

    /** Texts full of strings, one behind the other. */
    private static void manyStrings() {
        MeetingHouse house = new MeetingHouse();
        for (int k = 0; k < 2; k++) {
            char sign = (char) ('a' + k);
            StringBuilder text = new StringBuilder();
            for (int i = 0; i < 56; i++) {
                text.append("VAL []BYTE s IS \"").append(("" + sign).repeat(59)).append((char) ('A'
                        + i % 26)).append("\":\n");
            }
            text.append("SEQ\n  screen ! s[0]\n  screen ! s[59]\n");
            Trial.feed(house, text.toString());
            Trial.due("read()", house.read(), 0);
            house.begin(1);
            Trial.run(house, 9);
            Trial.dueText("OUTPUT", Trial.shown(house), sign + "D");
        }
    }

    /** 20,000 cells and 400 names are those of one text. */
    private static void manyCells() {
        MeetingHouse house = new MeetingHouse();
        String ten = "a, b, c, d, e, f, g, h, i, j";
        String full = ("[200] INT " + ten + ":\n").repeat(10) + ("TIMER " + ten + ":\n").repeat(30) + "SKIP\n";
        for (int k = 0; k < 3; k++) {
            Trial.feed(house, full);
            Trial.due("read()", house.read(), 0);
            Trial.due("count(2)", house.count(2), 400);
            house.begin(1);
            Trial.due("count(12)", house.count(12), 20000);
            Trial.run(house, 9);
            Trial.due("ENDED", house.count(4), 2);
        }
    }

    /** 60 calls are those of one run. */
    private static void manyCalls() {
        StringBuilder text = new StringBuilder("PROC p0()\n  STOP\n:\n");
        for (int i = 1; i < 60; i++) {
            text.append("PROC p").append(i).append("()\n  p").append(i - 1).append("()\n:\n");
        }
        text.append("PAR i = 0 FOR 2\n  p59()\n");
        MeetingHouse house = Trial.house(text.toString());
        Trial.due("read()", house.read(), 0);
        for (int k = 0; k < 3; k++) {
            house.begin(k);
            Trial.run(house, 2000);
            Trial.due("STOP", Trial.stopped(house, 1), 200);
            Trial.due("STOP", Trial.stopped(house, 2), 200);
        }
    }
}
