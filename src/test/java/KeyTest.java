/** Promise 8: key, and keyboard. */
public final class KeyTest {
    public static void main(String[] args) {
        none();
        waiting();
        queue();
        inAlt();
        atOnce();
        Trial.finish("KeyTest");
    }

    private static void none() {
        MeetingHouse house = Trial.house("SKIP");
        Trial.due("no program", house.key(1), false);
        house.read();
        Trial.due("no run", house.key(1), false);
        house.begin(1);
        Trial.due("a run", house.key(1), true);
        Trial.due("INPUT", house.count(11), 1);
        Trial.run(house, 5);
        Trial.due("ENDED", house.count(4), 2);
        Trial.due("behind the end", house.key(1), true);
        Trial.due("INPUT", house.count(11), 2);
    }

    private static void waiting() {
        MeetingHouse house = Trial.ran(1, "INT x, y:", "SEQ", "  keyboard ? x", "  keyboard ? y");
        Trial.due("WAITS for a key", house.process(0, 0), 6);
        Trial.due("line", house.process(0, 1), 3);
        Trial.due("steps", house.count(5), 1);
        Trial.due("key", house.key(0x1FF), true);
        Trial.due("it has it at once", house.cell(0), 255);
        Trial.due("INPUT", house.count(11), 0);
        Trial.due("ahead of its next ACT", house.process(0, 1), 4);
        Trial.due("READY", house.process(0, 0), 0);
        Trial.due("no STEP", house.count(5), 1);
        Trial.due("CLOCK", house.count(9), 1);
        Trial.due("goes on", house.count(4), 1);
        Trial.due("key", house.key(-1), true);
        Trial.due("INPUT", house.count(11), 1);
        Trial.due("run", Trial.run(house, 9), 1);
        Trial.due("y", house.cell(1), 255);
        Trial.due("ENDED", house.count(4), 2);
    }

    private static void queue() {
        MeetingHouse house = Trial.begun(1, "INT s:", "SEQ i = 0 FOR 3", "  INT k:", "  SEQ", "    keyboard ? k",
                "    s := (s * 1000) + k");
        for (int i = 0; i < 500; i++) {
            if (!house.key(i)) {
                Trial.due("key " + i, 0, 1);
            }
        }
        Trial.due("500 wait", house.key(7), false);
        Trial.due("INPUT", house.count(11), 500);
        Trial.run(house, 3);
        Trial.due("INPUT", house.count(11), 499);
        Trial.due("one more", house.key(9), true);
        Trial.due("500 wait", house.key(9), false);
        Trial.run(house, 99);
        Trial.due("in their order", house.cell(0), 1002);
        Trial.due("INPUT", house.count(11), 498);
    }

    private static void inAlt() {
        MeetingHouse house = Trial.ran(1, "INT x:", "CHAN OF INT c:", "ALT", "  c ? x", "    STOP", "  keyboard ? x",
                "    x := x + 1");
        Trial.due("in an ALT", house.process(0, 0), 3);
        Trial.due("key", house.key(65), true);
        Trial.due("READY", house.process(0, 0), 0);
        Trial.due("INPUT", house.count(11), 1);
        Trial.due("the ALT looks again", Trial.run(house, 1), 1);
        Trial.due("x", house.cell(0), 65);
        Trial.due("line", house.process(0, 1), 7);
        MeetingHouse off = Trial.ran(1, "INT x:", "CHAN OF INT c:", "ALT", "  c ? x", "    STOP",
                "  x = 1 & keyboard ? x", "    x := x + 1");
        Trial.due("key", off.key(65), true);
        Trial.due("it does not wait for it", off.process(0, 0), 3);
        Trial.due("STANDS", off.count(4), 3);
    }

    private static void atOnce() {
        // The way behind a key may end processes, and is worked out with FAULTs.
        MeetingHouse ends = Trial.ran(1, "INT x:", "PAR", "  keyboard ? x");
        Trial.due("key", ends.key(3), true);
        Trial.due("ENDED", ends.count(4), 2);
        Trial.due("x", ends.cell(0), 3);
        MeetingHouse fault = Trial.ran(1, "INT x:", "SEQ", "  keyboard ? x", "  VAL INT y IS 1 / x:", "  SKIP");
        Trial.due("key", fault.key(0), true);
        Trial.due("FAULT", Trial.stopped(fault, 0), 402);
        MeetingHouse through = Trial.ran(1, "INT x:", "PROC p(CHAN OF INT c)", "  c ? x", ":", "p(keyboard)");
        Trial.due("through a FORMAL", through.process(0, 0), 6);
        through.key(77);
        Trial.due("x", through.cell(0), 77);
        MeetingHouse work = Trial.ran(1, "INT x:", "INT FUNCTION f(VAL INT n)", "  VALOF", "    SEQ i = 0 FOR n",
                "      SKIP", "    RESULT n", ":",
                "SEQ", "  x := f(40)", "  keyboard ? x", "  VAL INT y IS f(x):", "  x := y");
        Trial.due("key", work.key(49), true);
        Trial.due("FUNCTIONs count anew in key()", work.process(0, 0), 0);
        Trial.run(work, 9);
        Trial.due("x", work.cell(0), 49);
    }
}
