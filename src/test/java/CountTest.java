/** Promise 5: count. */
public final class CountTest {
    public static void main(String[] args) {
        String text = Trial.lines("PROTOCOL p", "  CASE", "    a", "    b; INT", ":", "CHAN OF p c, d:", "INT x:",
                "[3] INT v:", "TIMER t:", "VAL INT n IS 3:", "INT y IS x:", "PROC q(INT g)", "  INT h:", "  SKIP", ":",
                "INT FUNCTION f(VAL INT g) IS g:", "SEQ i = 0 FOR n", "  SKIP");
        MeetingHouse house = Trial.house(text);
        Trial.due("count(3)", house.count(3), text.length());
        Trial.due("read()", house.read(), 0);
        // p, c, d, x, v, t, n, y, q, h, f
        Trial.due("count(2)", house.count(2), 11);
        Trial.due("count(1)", house.count(1), 18);
        for (int what = 4; what <= 13; what++) {
            Trial.due("count(" + what + ") before begin()", house.count(what), 0);
        }
        Trial.due("count(-1)", house.count(-1), -1);
        Trial.due("count(14)", house.count(14), -1);
        Trial.due("count(MIN)", house.count(Integer.MIN_VALUE), -1);
        house.begin(1);
        Trial.due("count(4)", house.count(4), 1);
        Trial.due("count(6)", house.count(6), 1);
        Trial.due("count(7)", house.count(7), 1);
        // x, v and the two channels; an abbreviation and a VAL have none.
        Trial.due("count(12)", house.count(12), 6);
        Trial.due("run(2)", Trial.run(house, 2), 2);
        Trial.due("count(5)", house.count(5), 2);
        Trial.due("count(9)", house.count(9), 2);
        Trial.due("run(100)", Trial.run(house, 100), 5);
        Trial.due("count(4)", house.count(4), 2);
        Trial.due("count(5)", house.count(5), 7);
        Trial.due("count(6)", house.count(6), 0);
        Trial.due("count(7)", house.count(7), 1);
        Trial.due("count(12)", house.count(12), 0);
        house.begin(1);
        Trial.due("count(5) anew", house.count(5), 0);
        Trial.due("count(4) anew", house.count(4), 1);
        Trial.feed(house, "SKIP");
        Trial.due("count(3)", house.count(3), 4);
        Trial.due("read()", house.read(), 0);
        Trial.due("count(4) behind read()", house.count(4), 0);
        Trial.due("count(7) behind read()", house.count(7), 0);
        Trial.due("run(1) behind read()", Trial.run(house, 1), -3);
        states();
        cells();
        Trial.finish("CountTest");
    }

    private static void states() {
        MeetingHouse stands = Trial.ran(1, "CHAN OF INT c:", "PAR", "  c ! 1", "  STOP", "  SKIP");
        Trial.due("STANDS", stands.count(4), 3);
        Trial.due("processes", stands.count(6), 3);
        Trial.due("made", stands.count(7), 4);
        Trial.due("STOPPED", stands.count(13), 1);
        Trial.due("no meeting", stands.count(8), 0);
        MeetingHouse keyed = Trial.ran(1, "INT x:", "keyboard ? x");
        Trial.due("WAITS FOR A KEY", keyed.count(4), 4);
        MeetingHouse inAlt = Trial.ran(1, "INT x:", "CHAN OF INT c:", "ALT", "  c ? x", "    SKIP", "  keyboard ? x",
                "    SKIP");
        Trial.due("WAITS FOR A KEY in an ALT", inAlt.count(4), 4);
        MeetingHouse off = Trial.ran(1, "INT x:", "CHAN OF INT c:", "ALT", "  c ? x", "    SKIP",
                "  FALSE & keyboard ? x",
                "    SKIP");
        Trial.due("STANDS in an ALT", off.count(4), 3);
        MeetingHouse timed = Trial.begun(1, "TIMER t:", "t ? AFTER 100");
        Trial.due("goes on", timed.count(4), 1);
        Trial.due("a step", Trial.run(timed, 1), 1);
        Trial.due("process 0", timed.process(0, 0), 4);
        Trial.due("WAITS for a time", timed.count(4), 1);
        Trial.due("CLOCK", timed.count(9), 1);
        Trial.due("the other step", Trial.run(timed, 9), 1);
        Trial.due("CLOCK", timed.count(9), 102);
        Trial.due("ENDED", timed.count(4), 2);
    }

    private static void cells() {
        MeetingHouse house = Trial.begun(1, "[10] INT v:", "PROC p(VAL [] INT a)", "  INT b:", "  SEQ", "    SKIP",
                "    SKIP", ":",
                "SEQ", "  p(v)", "  SEQ", "    VAL [] BYTE s IS \"abc\":", "    [2] CHAN OF INT c, d:", "    SKIP",
                "  SKIP");
        int[] taken = {10, 21, 21, 17, 10};
        for (int i = 0; i < taken.length; i++) {
            Trial.due("cells taken behind " + i + " steps", house.count(12), taken[i]);
            Trial.run(house, 1);
        }
        Trial.due("ENDED", house.count(4), 2);
    }
}
