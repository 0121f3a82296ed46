/** Promises 9 to 13: output, process, cell, meeting, clashes, and what meets in a run. */
public final class MeetingsTest {
    public static void main(String[] args) {
        plain();
        parts();
        tagged();
        ways();
        alternatives();
        draws();
        guards();
        timers();
        screen();
        kept();
        states();
        cells();
        forGood();
        clashes();
        Trial.finish("MeetingsTest");
    }

    private static void facts(MeetingHouse house, int k, int... want) {
        for (int what = 0; what < want.length; what++) {
            Trial.due("meeting(" + k + ", " + what + ")", house.meeting(k, what), want[what]);
        }
    }

    private static void plain() {
        for (int seed = 0; seed < 8; seed++) {
            MeetingHouse house = Trial.ran(seed, "INT x:", "[3] CHAN OF INT c, d:", "PAR", "  d[2] ! 42", "  d[2] ? x");
            Trial.due("ENDED", house.count(4), 2);
            Trial.due("x", house.cell(0), 42);
            Trial.due("meetings", house.count(8), 1);
            Trial.due("steps", house.count(5), 3);
            facts(house, 0, 2, 2, 1, 2, 1, 42, 3);
            Trial.due("another what", house.meeting(0, 7), -1);
            Trial.due("another what", house.meeting(0, -1), -1);
            Trial.due("not kept", house.meeting(1, 0), -1);
            Trial.due("not kept", house.meeting(-1, 0), -1);
        }
    }

    private static void parts() {
        String[] text = {"PROTOCOL p IS INT; [3] INT; BOOL:", "[3] INT v:", "INT x:", "BOOL b:", "CHAN OF p c:",
                "PAR", "  c ! 7; [1, 2, 3]; TRUE",
            "  c ? x; v; b"};
        MeetingHouse house = Trial.ran(1, text);
        int[] want = {1, 2, 3, 7, 1};
        for (int i = 0; i < want.length; i++) {
            Trial.due("cell " + i, house.cell(i), want[i]);
        }
        facts(house, 0, 5, 0, 1, 2, 5, 7, 3);
        // Arrays without a number are looked at when parts, or places, are worked out.
        MeetingHouse parts = Trial.ran(1, "PROTOCOL p IS [3] INT:", "CHAN OF p c:", "[2] INT v:",
                "PROC q(VAL [] INT a)", "  c ! a", ":", "q(v)");
        Trial.due("FAULT 9", Trial.stopped(parts, 0), 509);
        MeetingHouse places = Trial.ran(1, "PROTOCOL p IS [3] INT:", "CHAN OF p c:", "[4] INT v:", "PROC q([] INT a)",
                "  c ? a", ":", "q(v)");
        Trial.due("FAULT 9", Trial.stopped(places, 0), 509);
        MeetingHouse index = Trial.ran(1, "INT x:", "[2] CHAN OF INT c:", "c[x - 1] ! 1 / x");
        Trial.due("the channel's index comes first", Trial.stopped(index, 0), 303);
    }

    private static void tagged() {
        String[] ahead = {"PROTOCOL p", "  CASE", "    none", "    one; INT", "    some; INT; [2] INT", ":",
                "CHAN OF p c:", "INT x:", "[2] INT v:",
            "PAR"};
        for (int seed = 0; seed < 6; seed++) {
            MeetingHouse house = Trial.ran(seed, Trial.with(ahead, "  SEQ", "    c ! some; 5; [6, 7]", "    c ! none",
                    "  SEQ i = 0 FOR 2", "    c ? CASE",
                    "      none", "        SKIP", "      some; x; v", "        SKIP"));
            Trial.due("ENDED", house.count(4), 2);
            Trial.due("x", house.cell(0), 5);
            Trial.due("v[1]", house.cell(2), 7);
            facts(house, 1, 7, 0, 1, 2, 4, 2);
            facts(house, 0, 7, 0, 1, 2, 1, 0);
            MeetingHouse missing = Trial.ran(seed, Trial.with(ahead, "  SEQ", "    c ! one; 5", "    SKIP", "  c ? CASE",
                    "    none", "      SKIP"));
            Trial.due("FAULT 5", Trial.stopped(missing, 2), 1405);
            Trial.due("the writer goes on", missing.process(1, 0), -1);
            facts(missing, 0, 7, 0, 1, 2, 2, 1);
            MeetingHouse index = Trial.ran(seed, Trial.with(ahead, "  SEQ", "    c ! one; 5", "    SKIP", "  INT y:",
                    "  c ? CASE", "    one; v[y - 1]",
                    "      SKIP"));
            Trial.due("FAULT 3", Trial.stopped(index, 2), 1503);
            Trial.due("the writer goes on", index.process(1, 0), -1);
            Trial.due("meetings", index.count(8), 1);
            MeetingHouse inAlt = Trial.ran(seed, Trial.with(ahead, "  c ! one; 5", "  ALT", "    c ? CASE", "      none",
                    "        STOP", "      one; x",
                    "        x := x + 1"));
            Trial.due("x", inAlt.cell(0), 6);
            MeetingHouse noTag = Trial.ran(seed, Trial.with(ahead, "  c ! one; 5", "  ALT", "    c ? CASE", "      none",
                    "        STOP"));
            Trial.due("FAULT 5 at the GUARD", Trial.stopped(noTag, 2), 1305);
        }
    }

    /** Both go on in the STEP of the meeting, first the one that does it. */
    private static void ways() {
        MeetingHouse house = Trial.begun(0, "CHAN OF INT c:", "INT x:", "SEQ", "  PAR", "    SEQ", "      c ! 1",
                "      SKIP", "    SEQ", "      c ? x",
                "      STOP", "  SKIP");
        Trial.run(house, 3);
        Trial.due("writer", house.process(1, 1), 7);
        Trial.due("reader", house.process(2, 1), 10);
        Trial.due("writer is READY", house.process(1, 0), 0);
        Trial.due("x", house.cell(0), 1);
        // The last branch's end takes the process of the PAR on, in that STEP.
        MeetingHouse ends = Trial.begun(0, "CHAN OF INT c:", "INT x:", "SEQ", "  PAR", "    c ! 1", "    c ? x",
                "  SKIP");
        Trial.run(ends, 3);
        Trial.due("processes", ends.count(6), 1);
        Trial.due("line", ends.process(0, 1), 7);
        Trial.due("READY", ends.process(0, 0), 0);
        // Branches go on to their first ACT when they are made; DECLARATIONs on that way are worked out.
        MeetingHouse made = Trial.begun(0, "INT x:", "PAR", "  INT y:", "  VAL INT z IS 1 / x:", "  SKIP", "  SEQ",
                "    SEQ", "      STOP");
        Trial.run(made, 1);
        Trial.due("FAULT on the way", Trial.stopped(made, 1), 402);
        Trial.due("line", made.process(2, 1), 8);
        Trial.due("parent", made.process(2, 2), 0);
        Trial.due("parent of 0", made.process(0, 2), -1);
        Trial.due("WAITS for its branches", made.process(0, 0), 5);
        Trial.due("line of the PAR", made.process(0, 1), 2);
    }

    private static void alternatives() {
        for (int seed = 0; seed < 10; seed++) {
            MeetingHouse house = Trial.ran(seed, "INT x:", "[2] CHAN OF INT c:", "PAR", "  c[1] ! 9", "  ALT",
                    "    c[0] ? x", "      STOP",
                    "    c[1] ? x", "      x := x + 1");
            Trial.due("x", house.cell(0), 10);
            facts(house, 0, 2, 1, 1, 2, 1, 9);
            MeetingHouse each = Trial.ran(seed, "INT x, k:", "[5] CHAN OF INT c:", "PAR", "  c[3] ! 9",
                    "  ALT i = 1 FOR 4", "    c[i] ? x",
                    "      k := i");
            Trial.due("the GUARD's value", each.cell(1), 3);
            MeetingHouse pri = Trial.ran(seed, "INT x:", "PRI ALT", "  FALSE & SKIP", "    x := 1", "  SKIP",
                    "    x := 2", "  SKIP", "    x := 3");
            Trial.due("PRI", pri.cell(0), 2);
        }
        // An ALT that waits becomes READY, and takes the message as its own STEP; the writer waits till then.
        MeetingHouse woken = Trial.begun(0, "INT x:", "CHAN OF INT c:", "PAR", "  SEQ", "    SKIP", "    SKIP",
                "    SKIP", "    c ! 4", "  ALT",
                "    c ? x", "      SKIP");
        for (int i = 0; i < 40 && woken.process(1, 0) != 1; i++) {
            Trial.run(woken, 1);
        }
        Trial.due("the writer WAITS", woken.process(1, 0), 1);
        Trial.due("the ALT is READY", woken.process(2, 0), 0);
        Trial.due("line of the ALT", woken.process(2, 1), 9);
        Trial.run(woken, 1);
        Trial.due("the writer is gone", woken.process(1, 0), -1);
        Trial.due("the ALT goes on", woken.process(2, 1), 11);
        Trial.due("x", woken.cell(0), 4);
    }

    /** Which GUARD is taken is drawn, also of one. */
    private static void draws() {
        for (int seed = 0; seed < 30; seed++) {
            MeetingHouse house = Trial.ran(seed, "[4] INT v:", "SEQ i = 0 FOR 4", "  ALT", "    i > 1 & SKIP",
                    "      v[i] := 1", "    SKIP",
                    "      v[i] := 2", "    i > 0 & SKIP", "      v[i] := 3");
            int s = seed;
            for (int i = 0; i < 4; i++) {
                s = next(next(s));
                s = next(s);
                int n = i > 1 ? 3 : i + 1;
                int k = (s >>> 16) % n;
                Trial.due("seed " + seed + ", time " + i, house.cell(i), i > 1 ? k + 1 : k + 2);
                s = next(s);
            }
        }
    }

    private static int next(int s) {
        return s * 1103515245 + 12345;
    }

    private static void guards() {
        // Of a GUARD that is FALSE nothing more is worked out.
        MeetingHouse off = Trial.ran(1, "INT x:", "[2] CHAN OF INT c:", "ALT", "  x = 1 & c[x - 1] ? x", "    SKIP",
                "  SKIP", "    x := 5");
        Trial.due("x", off.cell(0), 5);
        MeetingHouse index = Trial.ran(1, "INT x:", "[2] CHAN OF INT c:", "ALT", "  SKIP", "    SKIP",
                "  x = 0 & c[x - 1] ? x", "    SKIP");
        Trial.due("FAULT at the GUARD", Trial.stopped(index, 0), 603);
        MeetingHouse after = Trial.ran(1, "INT x:", "TIMER t:", "ALT", "  SKIP", "    SKIP", "  t ? AFTER 1 / x",
                "    SKIP");
        Trial.due("FAULT at the GUARD", Trial.stopped(after, 0), 602);
        MeetingHouse place = Trial.ran(1, "INT x:", "[2] INT v:", "CHAN OF INT c:", "PAR", "  c ! 1", "  ALT",
                "    c ? v[x - 1]", "      SKIP");
        Trial.due("FAULT at the GUARD that was taken", Trial.stopped(place, 2), 703);
        Trial.due("no meeting then", place.count(8), 0);
        Trial.due("the writer WAITS", place.process(1, 0), 1);
        // GUARDs are worked out once: x grows, but c[0] is waited with.
        MeetingHouse timer = Trial.ran(1, "INT x:", "TIMER t:", "ALT", "  t ? x", "    x := x + 100");
        Trial.due("a timer without AFTER is READY", timer.cell(0), 100);
    }

    private static void timers() {
        MeetingHouse house = Trial.begun(1, "INT a, b:", "TIMER t:", "SEQ", "  t ? a", "  t ? AFTER a PLUS 10",
                "  t ? b");
        Trial.due("run", Trial.run(house, 2), 2);
        Trial.due("WAITS for a time", house.process(0, 0), 4);
        Trial.due("line", house.process(0, 1), 5);
        Trial.due("CLOCK", house.count(9), 2);
        Trial.due("run", Trial.run(house, 1), 1);
        // CLOCK has become 11, and has grown behind that STEP.
        Trial.due("CLOCK", house.count(9), 12);
        Trial.run(house, 9);
        Trial.due("b", house.cell(1), 12);
        MeetingHouse alt = Trial.ran(1, "INT x:", "CHAN OF INT c:", "TIMER t:", "ALT", "  c ? x", "    STOP",
                "  t ? AFTER 50", "    x := 1",
                "  t ? AFTER 40", "    t ? x");
        Trial.due("the nearest time", alt.cell(0), 42);
        MeetingHouse wraps = Trial.ran(1, "INT x:", "TIMER t:", "SEQ", "  t ? AFTER MOSTPOS INT", "  t ? x");
        Trial.due("CLOCK wraps", wraps.cell(0), Integer.MIN_VALUE + 1);
        MeetingHouse past = Trial.ran(1, "INT x:", "TIMER t:", "SEQ", "  t ? AFTER (MOSTNEG INT) + 1", "  t ? x");
        Trial.due("a time of the past", past.cell(0), 1);
        MeetingHouse half = Trial.ran(1, "INT x:", "TIMER t:", "SEQ", "  t ? AFTER MOSTNEG INT", "  t ? x");
        Trial.due("the time that is farthest", half.cell(0), Integer.MIN_VALUE + 2);
    }

    private static void screen() {
        MeetingHouse house = Trial.ran(1, "VAL [] BYTE s IS \"Hello*n\":", "SEQ i = 0 FOR SIZE s", "  screen ! s[i]");
        Trial.dueText("OUTPUT", Trial.shown(house), "Hello\n");
        Trial.due("output(6)", house.output(6), -1);
        Trial.due("output(-1)", house.output(-1), -1);
        Trial.due("no meetings", house.count(8), 0);
        MeetingHouse many = Trial.begun(1, "SEQ i = 0 FOR 2005", "  screen ! BYTE (i /\\ 255)");
        Trial.run(many, 2000);
        Trial.run(many, 2000);
        Trial.due("OUTPUT", many.count(10), 2000);
        Trial.run(many, 2000);
        Trial.due("nothing comes behind 2,000", many.count(10), 2000);
        Trial.due("output(1999)", many.output(1999), 1999 & 255);
        Trial.due("output(255)", many.output(255), 255);
        Trial.due("ENDED", many.count(4), 2);
        MeetingHouse through = Trial.ran(1, "PROC p(CHAN OF BYTE c)", "  c ! 'x'", ":", "p(screen)");
        Trial.dueText("through a FORMAL", Trial.shown(through), "x");
    }

    private static void kept() {
        MeetingHouse house = Trial.begun(3, "CHAN OF INT c:", "INT x:", "PAR", "  SEQ i = 0 FOR 70", "    c ! i",
                "  SEQ i = 0 FOR 70", "    c ? x");
        Trial.run(house, 2000);
        Trial.due("meetings", house.count(8), 70);
        Trial.due("latest", house.meeting(0, 5), 69);
        Trial.due("the 64th", house.meeting(63, 5), 6);
        Trial.due("the 65th", house.meeting(64, 5), -1);
        for (int k = 0; k < 63; k++) {
            if (house.meeting(k, 6) <= house.meeting(k + 1, 6)) {
                Trial.due("STEPs of meetings grow", 0, 1);
            }
        }
    }

    private static void states() {
        MeetingHouse house = Trial.ran(1, "[4] CHAN OF INT c:", "INT x:", "PROC p(CHAN OF INT d)", "  d ! 1", ":",
                "PAR", "  p(c[3])", "  c[2] ? x",
                "  INT y:", "  ALT", "    c[1] ? y", "      SKIP", "  STOP", "  INT z:", "  keyboard ? z");
        int[][] want = {{5, 6, -1, 0, 0, -1}, {1, 4, 0, 1, 3, -1}, {2, 8, 0, 1, 2, -1}, {3, 10, 0, 0, 0, -1}, {7, 13,
                0, 0, 0, 0},
            {6, 15, 0, 0, 0, -1}};
        for (int p = 0; p < want.length; p++) {
            for (int what = 0; what < 6; what++) {
                Trial.due("process(" + p + ", " + what + ")", house.process(p, what), want[p][what]);
            }
            Trial.due("another what", house.process(p, 6), -1);
            Trial.due("another what", house.process(p, -1), -1);
        }
        Trial.due("not there", house.process(6, 0), -1);
        Trial.due("not there", house.process(-1, 0), -1);
        Trial.due("WAITS FOR A KEY", house.count(4), 4);
    }

    private static void cells() {
        MeetingHouse house = Trial.begun(1, "INT a:", "CHAN OF INT c:", "[3] BOOL b:", "VAL [] INT v IS [9, 9]:",
                "INT d IS a:", "BYTE e, f:", "SEQ",
                "  a, b[1], e, f := -5, TRUE, 'e', 'f'", "  INT z:", "  z := 7");
        Trial.run(house, 1);
        int[] want = {-5, 0, 1, 0, 101, 102, 0};
        for (int i = 0; i < want.length; i++) {
            Trial.due("cell(" + i + ")", house.cell(i), want[i]);
        }
        Trial.due("cell(-1)", house.cell(-1), 0);
        Trial.due("cell(MAX)", house.cell(Integer.MAX_VALUE), 0);
        Trial.run(house, 9);
        Trial.due("ENDED", house.count(4), 2);
        for (int i = 0; i < want.length; i++) {
            Trial.due("cell(" + i + ") behind the end", house.cell(i), want[i]);
        }
        MeetingHouse part = Trial.begun(1, "INT a:", "VAL INT v IS 1 / a:", "INT b:", "SKIP");
        Trial.due("not made", part.cell(1), 0);
    }

    private static void forGood() {
        MeetingHouse reads = Trial.ran(1, "PROC p(CHAN OF BYTE s)", "  BYTE b:", "  s ? b", ":", "p(screen)");
        Trial.due("screen is read for good", reads.process(0, 0), 2);
        Trial.due("it is declared nowhere", reads.process(0, 3), 0);
        Trial.due("STANDS", reads.count(4), 3);
        MeetingHouse writes = Trial.ran(1, "PROC p(CHAN OF INT k)", "  k ! 1", ":", "INT x:", "PAR", "  p(keyboard)",
                "  keyboard ? x");
        Trial.due("keyboard is written for good", writes.process(1, 0), 1);
        Trial.due("it is declared nowhere", writes.process(1, 3), 0);
        Trial.due("it has no meetings", writes.process(2, 0), 6);
        MeetingHouse waits = Trial.ran(1, "PROC p(CHAN OF BYTE s)", "  BYTE b:", "  ALT", "    s ? b", "      SKIP",
                ":", "PAR", "  p(screen)",
                "  screen ! 'a'");
        Trial.due("screen in a GUARD", waits.process(1, 0), 3);
        Trial.due("STANDS", waits.count(4), 3);
    }

    private static void clashes() {
        MeetingHouse house = Trial.ran(5, "[4] INT v:", "[5] CHAN OF INT c:", "PAR", "  c[0] ! 1",
                "  PAR i = 0 FOR 4", "    SEQ", "      c[i] ? v[i]",
                "      c[i + 1] ! v[i] + 1", "  INT x:", "  c[4] ? x");
        Trial.due("ENDED", house.count(4), 2);
        Trial.due("v[3]", house.cell(3), 4);
        Trial.due("clashes()", house.clashes(), 0);
    }
}
