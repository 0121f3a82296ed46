/** The boundary cases of promises 1 to 13, call by call: too small, too large, empty, full, refused. */
public final class CallBoundsTest {
    private static final int LEAST = Integer.MIN_VALUE;
    private static final int MOST = Integer.MAX_VALUE;

    public static void main(String[] args) {
        aNewObject();
        aFullTape();
        fromTheTape();
        bytesOfFeed();
        theTapeOfRead();
        programsOfRead();
        whatOfCount();
        countsWithoutRun();
        countsOfEnd();
        beginWithoutProgram();
        beginAnew();
        stepsOfRun();
        fewerSteps();
        exceptionsInOrder();
        throwingChangesNothing();
        keysRefused();
        keysFull();
        bytesOfKeys();
        outputOutside();
        outputFull();
        processOutside();
        cellsOutside();
        cellsNotMade();
        meetingsOutside();
        meetingsKept();
        noClashes();
        Trial.finish("CallBoundsTest");
    }

    private static final int[] FAR = {LEAST, -2, -1, 14, 15, 99, MOST};

    /** Promise 1: "An empty tape, no program." */
    private static void aNewObject() {
        MeetingHouse house = new MeetingHouse();
        for (int what = 0; what <= 13; what++) {
            Trial.due("count(" + what + ") of a new object", house.count(what), 0);
        }
        Trial.due("back(0)", house.back(0), 0);
        Trial.due("back(1)", house.back(1), -1);
        Trial.due("begin(0)", begins(house, 0), false);
        Trial.due("run(0)", Trial.run(house, 0), -3);
        Trial.due("key(0)", house.key(0), false);
        nothingToTell(house);
        Trial.due("read() of an empty tape", house.read(), 18);
    }

    /** Whether begin(seed) does not throw. */
    private static boolean begins(MeetingHouse house, int seed) {
        try {
            house.begin(seed);
            return true;
        } catch (IllegalStateException e) {
            return false;
        }
    }

    private static void nothingToTell(MeetingHouse house) {
        for (int i = -1; i <= 1; i++) {
            Trial.due("output(" + i + ")", house.output(i), -1);
            Trial.due("cell(" + i + ")", house.cell(i), 0);
            for (int what = -1; what <= 7; what++) {
                Trial.due("process(" + i + ", " + what + ")", house.process(i, what), -1);
                Trial.due("meeting(" + i + ", " + what + ")", house.meeting(i, what), -1);
            }
        }
        Trial.due("clashes()", house.clashes(), 0);
    }

    /** Promise 2: "NONE, and nothing comes, if it would have more than 6,000." */
    private static void aFullTape() {
        MeetingHouse house = new MeetingHouse();
        for (int n = 20; n <= 5980; n += 20) {
            house.feed(0x20202020, 0x20202020, 0x20202020, 0x20202020, 0x20202020);
        }
        Trial.due("count(3)", house.count(3), 5980);
        Trial.due("back(1)", house.back(1), 5979);
        Trial.due("feed up to 5,999", house.feed(0x20202020, 0x20202020, 0x20202020, 0x20202020, 0x20202020), 5999);
        Trial.due("feed to more than 6,000", house.feed(1, 2, 3, 4, 5), -1);
        Trial.due("count(3)", house.count(3), 5999);
        Trial.due("back(18)", house.back(18), 5981);
        Trial.due("feed to 6,001", house.feed(1, 2, 3, 4, 5), -1);
        Trial.due("count(3)", house.count(3), 5981);
        Trial.due("back(1)", house.back(1), 5980);
        // Nothing of the feeds that were refused has come: line 1 is blanks, and then a SKIP.
        Trial.due("feed to 6,000", house.feed(0x0A0A0A0A, 0x0A0A0A0A, 0x0A0A0A0A, 0x0A0A0A0A, 0x534B4950), 6000);
        Trial.due("feed to a full tape", house.feed(0, 0, 0, 0, 0), -1);
        Trial.due("count(3)", house.count(3), 6000);
        Trial.due("read()", house.read(), 0);
        Trial.due("count(1)", house.count(1), 1);
        Trial.due("an empty tape is fed again", house.feed(0, 0, 0, 0, 0), 20);
    }

    /** Promise 3: "NONE, and none go, if it has less, or n is below 0." */
    private static void fromTheTape() {
        MeetingHouse house = new MeetingHouse();
        Trial.feed(house, "SKIPx");
        for (int n : new int[] {6, 7, 6001, MOST, -1, -5, LEAST}) {
            Trial.due("back(" + n + ")", house.back(n), -1);
            Trial.due("count(3)", house.count(3), 5);
        }
        Trial.due("back(0)", house.back(0), 5);
        Trial.due("back(1)", house.back(1), 4);
        Trial.due("read()", house.read(), 0);
        Trial.feed(house, "STOP");
        Trial.due("back(4), all", house.back(4), 0);
        Trial.due("back(1), of none", house.back(1), -1);
    }

    /** Promise 2: "the highest of each int first". */
    private static void bytesOfFeed() {
        MeetingHouse house = new MeetingHouse();
        // VAL BYTE b IS 'a':, and a line's end; bytes above 127 stand in a note.
        Trial.due("feed", house.feed(0x56414C20, 0x42595445, 0x20622049, 0x53202761, 0x273A0A20), 20);
        Trial.due("back(1)", house.back(1), 19);
        Trial.due("feed", house.feed(0x53544F50, 0x2D2DFF80, 0x00090D0B, 0xFEFFFFFF, 0x80808080), 39);
        Trial.due("read()", house.read(), 0);
        Trial.due("count(0)", house.count(0), 7);
    }

    /** Promise 4: "the tape is empty then .. No run has begun." */
    private static void theTapeOfRead() {
        MeetingHouse house = Trial.house("SKIP");
        Trial.due("read()", house.read(), 0);
        Trial.due("count(3)", house.count(3), 0);
        Trial.due("count(0)", house.count(0), 1);
        Trial.due("back(1)", house.back(1), -1);
        // An empty tape is no program, and the old one is gone.
        Trial.due("read() again", house.read(), 18);
        Trial.due("count(0)", house.count(0), 0);
        Trial.due("begin(0)", begins(house, 0), false);
        Trial.feed(house, "x");
        Trial.due("read() with a fault", house.read(), 18);
        Trial.due("count(3)", house.count(3), 0);
        Trial.feed(house, "STOP");
        Trial.due("what was read with a fault is gone, too", house.read(), 0);
    }

    private static void programsOfRead() {
        MeetingHouse house = Trial.begun(1, "INT x:", "SEQ", "  x := 7", "  screen ! 'a'", "  STOP");
        Trial.run(house, 3);
        Trial.due("cell(0)", house.cell(0), 7);
        Trial.feed(house, "INT y, z:\nSTOP\n");
        // The tape grows beside a run, which goes on.
        Trial.due("count(3)", house.count(3), 15);
        Trial.due("count(5)", house.count(5), 3);
        Trial.due("read()", house.read(), 0);
        for (int what = 3; what <= 13; what++) {
            Trial.due("count(" + what + ") behind read()", house.count(what), 0);
        }
        nothingToTell(house);
        Trial.due("run(1)", Trial.run(house, 1), -3);
        Trial.due("key(1)", house.key(1), false);
        house.begin(1);
        Trial.feed(house, "INT y:\ny := TRUE\n");
        Trial.due("read() with a fault", house.read(), 16 * 2 + 7);
        Trial.due("begin(1)", begins(house, 1), false);
        for (int what = 0; what <= 13; what++) {
            Trial.due("count(" + what + ") without a program", house.count(what), 0);
        }
        nothingToTell(house);
    }

    /** Promise 5: "NONE for another what." */
    private static void whatOfCount() {
        MeetingHouse house = new MeetingHouse();
        for (int what : FAR) {
            Trial.due("count(" + what + ")", house.count(what), -1);
        }
        house = Trial.begun(1, "SKIP");
        for (int what : FAR) {
            Trial.due("count(" + what + ")", house.count(what), -1);
        }
    }

    /** "0 to 2 are 0 without a program, 5 to 13 before begin()." */
    private static void countsWithoutRun() {
        MeetingHouse house = Trial.house("INT x:\nSKIP\n");
        for (int what = 0; what <= 13; what++) {
            Trial.due("count(" + what + ") ahead of read()", house.count(what), what == 3 ? 12 : 0);
        }
        house.read();
        int[] due = {4, 2, 1, 0};
        for (int what = 0; what <= 13; what++) {
            Trial.due("count(" + what + ") behind read()", house.count(what), what < 4 ? due[what] : 0);
        }
        house.begin(9);
        int[] begun = {4, 2, 1, 0, 1, 0, 1, 1, 0, 0, 0, 0, 1, 0};
        for (int what = 0; what <= 13; what++) {
            Trial.due("count(" + what + ") behind begin()", house.count(what), begun[what]);
        }
    }

    private static void countsOfEnd() {
        MeetingHouse house = Trial.ran(1, "INT x:", "SKIP");
        int[] ended = {4, 2, 1, 0, 2, 1, 0, 1, 0, 1, 0, 0, 0, 0};
        for (int what = 0; what <= 13; what++) {
            Trial.due("count(" + what + ") of what has ENDED", house.count(what), ended[what]);
        }
        MeetingHouse stopped = Trial.ran(1, "INT x:", "STOP");
        int[] stands = {4, 2, 1, 0, 3, 1, 1, 1, 0, 1, 0, 0, 1, 1};
        for (int what = 0; what <= 13; what++) {
            Trial.due("count(" + what + ") of what STANDS", stopped.count(what), stands[what]);
        }
        MeetingHouse none = Trial.begun(1, "SEQ");
        Trial.due("ENDED ahead of all STEPS", none.count(4), 2);
        Trial.due("no STEPS", none.count(5), 0);
        Trial.due("one process was made", none.count(7), 1);
    }

    /** Promise 6: "IllegalStateException: there is no program." */
    private static void beginWithoutProgram() {
        MeetingHouse house = Trial.house("SKIP");
        Trial.due("begin ahead of read()", begins(house, 1), false);
        Trial.due("the tape is as it was", house.count(3), 4);
        house.read();
        for (int seed : new int[] {0, 1, -1, LEAST, MOST}) {
            Trial.due("begin(" + seed + ")", begins(house, seed), true);
            Trial.due("run(2000)", Trial.run(house, 2000), 1);
        }
    }

    /** "A run begins anew: process 0 is ahead of its first ACT; the INPUT and OUTPUT are empty." */
    private static void beginAnew() {
        MeetingHouse house = Trial.begun(1, "CHAN OF INT c:", "INT x:", "SEQ", "  screen ! 'a'", "  PAR", "    c ! 5",
                "    c ? x", "  PAR", "    STOP", "    STOP");
        house.key(65);
        Trial.run(house, 2000);
        Trial.due("STANDS", house.count(4), 3);
        Trial.due("meetings", house.count(8), 1);
        house.begin(1);
        int[] due = {1, 0, 1, 1, 0, 0, 0, 0, 2, 0};
        for (int what = 4; what <= 13; what++) {
            Trial.due("count(" + what + ") anew", house.count(what), due[what - 4]);
        }
        Trial.due("output(0)", house.output(0), -1);
        Trial.due("meeting(0, 0)", house.meeting(0, 0), -1);
        Trial.due("cell(0)", house.cell(0), 0);
        Trial.due("process(0, 0)", house.process(0, 0), 0);
        Trial.due("process(0, 1)", house.process(0, 1), 4);
        Trial.due("process(1, 0)", house.process(1, 0), -1);
        // The same seed, the same run.
        Trial.run(house, 2000);
        Trial.due("meetings", house.count(8), 1);
        Trial.due("count(7)", house.count(7), 5);
    }

    /** Promise 7: "IllegalArgumentException: n is not 0 .. 2000." */
    private static void stepsOfRun() {
        MeetingHouse house = Trial.begun(1, "WHILE TRUE", "  SKIP");
        Trial.due("run(0)", Trial.run(house, 0), 0);
        Trial.due("count(5)", house.count(5), 0);
        Trial.due("run(1)", Trial.run(house, 1), 1);
        Trial.due("run(2000)", Trial.run(house, 2000), 2000);
        for (int n : new int[] {-1, -2000, 2001, 2002, LEAST, MOST}) {
            Trial.due("run(" + n + ")", Trial.run(house, n), -2);
        }
        Trial.due("count(5)", house.count(5), 2001);
        Trial.due("count(9)", house.count(9), 2001);
    }

    /** "fewer when the run has ENDED, STANDS or WAITS FOR A KEY". */
    private static void fewerSteps() {
        MeetingHouse ends = Trial.begun(1, "SEQ", "  SKIP", "  SKIP", "  SKIP");
        Trial.due("run(2)", Trial.run(ends, 2), 2);
        Trial.due("run(2), one is left", Trial.run(ends, 2), 1);
        Trial.due("run(2), ENDED", Trial.run(ends, 2), 0);
        Trial.due("CLOCK stands, too", ends.count(9), 3);
        MeetingHouse stands = Trial.begun(1, "SEQ", "  SKIP", "  STOP");
        Trial.due("run(2000)", Trial.run(stands, 2000), 2);
        Trial.due("run(2000), STANDS", Trial.run(stands, 2000), 0);
        MeetingHouse key = Trial.begun(1, "INT x:", "SEQ", "  SKIP", "  keyboard ? x", "  SKIP");
        Trial.due("run(2000)", Trial.run(key, 2000), 2);
        Trial.due("run(2000), WAITS FOR A KEY", Trial.run(key, 2000), 0);
        Trial.due("key(7)", key.key(7), true);
        Trial.due("run(2000)", Trial.run(key, 2000), 1);
        Trial.due("ENDED", key.count(4), 2);
    }

    /** "Of several exceptions the one that the call names first." */
    private static void exceptionsInOrder() {
        MeetingHouse house = new MeetingHouse();
        Trial.due("run(-1), no run", Trial.run(house, -1), -2);
        Trial.due("run(2001), no run", Trial.run(house, 2001), -2);
        Trial.due("run(2000), no run", Trial.run(house, 2000), -3);
        Trial.due("run(0), no run", Trial.run(house, 0), -3);
        Trial.feed(house, "SKIP");
        house.read();
        Trial.due("run(-1), not begun", Trial.run(house, -1), -2);
        Trial.due("run(1), not begun", Trial.run(house, 1), -3);
    }

    /** "What throws changes nothing." */
    private static void throwingChangesNothing() {
        MeetingHouse house = Trial.begun(77, "INT x:", "SEQ i = 0 FOR 9", "  PAR", "    x := i", "    SKIP");
        MeetingHouse twin = Trial.begun(77, "INT x:", "SEQ i = 0 FOR 9", "  PAR", "    x := i", "    SKIP");
        for (int i = 0; i < 20; i++) {
            Trial.due("run(2001)", Trial.run(house, 2001), -2);
            Trial.due("run(-1)", Trial.run(house, -1), -2);
            Trial.run(house, 1);
            Trial.run(twin, 1);
            for (int what = 4; what <= 13; what++) {
                Trial.due("count(" + what + ")", house.count(what), twin.count(what));
            }
            for (int p = 0; p < 40; p++) {
                Trial.due("process(" + p + ", 1)", house.process(p, 1), twin.process(p, 1));
            }
        }
    }

    /** Promise 8: "false when no run has begun, or 500 wait". */
    private static void keysRefused() {
        MeetingHouse house = Trial.house("INT x:\nkeyboard ? x\n");
        Trial.due("no program", house.key(1), false);
        house.read();
        Trial.due("no run", house.key(1), false);
        house.begin(1);
        Trial.due("INPUT is empty", house.count(11), 0);
        Trial.due("a run", house.key(1), true);
        Trial.due("it waits", house.count(11), 1);
        house.begin(1);
        Trial.due("INPUT is empty anew", house.count(11), 0);
        Trial.run(house, 1);
        Trial.due("WAITS for a key", house.process(0, 0), 6);
        Trial.due("key", house.key(2), true);
        Trial.due("ENDED", house.count(4), 2);
        Trial.due("x", house.cell(0), 2);
        Trial.due("it did not stay", house.count(11), 0);
        Trial.due("behind the end a run has begun still", house.key(3), true);
        Trial.due("it waits", house.count(11), 1);
    }

    private static void keysFull() {
        MeetingHouse house = Trial.begun(1, "INT x, n:", "SEQ", "  SEQ i = 0 FOR 4", "    SEQ", "      keyboard ? n",
                "      x := (x * 10) + n", "  STOP");
        for (int i = 0; i < 499; i++) {
            house.key(i % 7);
        }
        Trial.due("499 wait", house.count(11), 499);
        Trial.due("the 500th", house.key(9), true);
        Trial.due("the 501st", house.key(8), false);
        Trial.due("500 wait", house.count(11), 500);
        Trial.run(house, 2);
        Trial.due("499 wait", house.count(11), 499);
    }

    /** "A byte (its lowest 8 bits) .. a process that WAITS for it has it at once". */
    private static void bytesOfKeys() {
        int[] keys = {0, 255, 256, -1, LEAST, MOST, 0x1234};
        int[] due = {0, 255, 0, 255, 0, 255, 0x34};
        for (int i = 0; i < keys.length; i++) {
            MeetingHouse house = Trial.ran(1, "INT x:", "SEQ", "  x := 1000", "  keyboard ? x", "  STOP");
            Trial.due("key(" + keys[i] + ")", house.key(keys[i]), true);
            Trial.due("it has it at once", house.cell(0), due[i]);
            Trial.due("ahead of its next ACT", house.process(0, 1), 5);
            Trial.due("no STEP", house.count(5), 2);
            Trial.due("CLOCK", house.count(9), 2);
        }
    }

    /** Promise 9: "NONE if there is none." */
    private static void outputOutside() {
        MeetingHouse house = Trial.begun(1, "SEQ", "  screen ! BYTE 0", "  screen ! BYTE 255", "  STOP");
        Trial.due("output(0) of none", house.output(0), -1);
        Trial.run(house, 1);
        Trial.due("output(0)", house.output(0), 0);
        Trial.due("output(1)", house.output(1), -1);
        Trial.run(house, 2);
        Trial.due("output(1)", house.output(1), 255);
        for (int i : new int[] {-1, 2, 2000, LEAST, MOST}) {
            Trial.due("output(" + i + ")", house.output(i), -1);
        }
    }

    /** "(beyond 2,000 bytes nothing comes behind the OUTPUT)", and screen ! does not wait then, too. */
    private static void outputFull() {
        MeetingHouse house = Trial.begun(1, "INT x:", "SEQ", "  SEQ i = 0 FOR 1999", "    screen ! 'a'",
                "  screen ! 'b'", "  screen ! 'c'", "  x := 1");
        Trial.run(house, 2000);
        Trial.run(house, 1999);
        Trial.due("1,999 bytes", house.count(10), 1999);
        Trial.due("output(1998)", house.output(1998), 'a');
        Trial.due("output(1999)", house.output(1999), -1);
        Trial.run(house, 1);
        Trial.due("2,000 bytes", house.count(10), 2000);
        Trial.due("output(1999)", house.output(1999), 'b');
        Trial.run(house, 1);
        Trial.due("2,000 bytes still", house.count(10), 2000);
        Trial.due("output(1999)", house.output(1999), 'b');
        Trial.due("output(2000)", house.output(2000), -1);
        Trial.due("it goes on", house.process(0, 1), 7);
        Trial.run(house, 1);
        Trial.due("x", house.cell(0), 1);
    }

    /** Promise 10: "NONE for another what, or if it is not there." */
    private static void processOutside() {
        MeetingHouse house = Trial.begun(1, "PAR", "  SKIP", "  STOP");
        for (int p : new int[] {-1, 1, 2, 79, 80, LEAST, MOST}) {
            for (int what = -1; what <= 6; what++) {
                Trial.due("process(" + p + ", " + what + ")", house.process(p, what), -1);
            }
        }
        for (int what : new int[] {-1, 6, LEAST, MOST}) {
            Trial.due("process(0, " + what + ")", house.process(0, what), -1);
        }
        Trial.run(house, 9);
        // Process 1 has ended, 2 is STOPPED, there never was a 3.
        for (int what = 0; what <= 5; what++) {
            Trial.due("process(1, " + what + ")", house.process(1, what), -1);
            Trial.due("process(3, " + what + ")", house.process(3, what), -1);
        }
        int[] due = {7, 3, 0, 0, 0, 0};
        for (int what = 0; what <= 5; what++) {
            Trial.due("process(2, " + what + ")", house.process(2, what), due[what]);
        }
        MeetingHouse ended = Trial.ran(1, "SKIP");
        for (int what = 0; what <= 5; what++) {
            Trial.due("process(0, " + what + ") behind its end", ended.process(0, what), -1);
        }
    }

    /** Promise 11: "0 for others", "behind the run's end as they were then". */
    private static void cellsOutside() {
        MeetingHouse house = Trial.begun(1, "[2] INT a:", "[2] CHAN OF INT c:", "BOOL t:", "TIMER n:",
                "VAL INT v IS 9:", "[] INT b IS a:", "[1] BYTE d, e:", "SEQ",
                        "  a, t, d, e := [1, 2], TRUE, \"d\", \"e\"",
                "  INT x:", "  x := 77");
        int[] due = {1, 2, 1, 'd', 'e'};
        for (int i = 0; i < due.length; i++) {
            Trial.due("cell(" + i + ") at first", house.cell(i), 0);
        }
        for (int round = 0; round < 3; round++) {
            Trial.run(house, 1);
            for (int i = 0; i < due.length; i++) {
                Trial.due("cell(" + i + ")", house.cell(i), due[i]);
            }
            for (int i : new int[] {-1, 5, 6, 20000, LEAST, MOST}) {
                Trial.due("cell(" + i + ")", house.cell(i), 0);
            }
        }
        Trial.due("ENDED", house.count(4), 2);
    }

    private static void cellsNotMade() {
        MeetingHouse house = Trial.begun(1, "INT a:", "VAL INT v IS 5 / a:", "[3] INT b:", "b[2] := 1");
        Trial.due("FAULT 2 in line 2", Trial.stopped(house, 0), 202);
        for (int i = 0; i < 5; i++) {
            Trial.due("cell(" + i + ")", house.cell(i), 0);
        }
        Trial.due("cells taken", house.count(12), 1);
        // What an earlier program, or run, left there is not told.
        MeetingHouse twice = Trial.ran(1, "INT a, b, c, d, e, f, g, h:",
                "a, b, c, d, e, f, g, h := 5, 6, 7, 8, 9, 10, 11, 12");
        Trial.due("cell(1)", twice.cell(1), 6);
        Trial.feed(twice, "INT a:\nVAL INT v IS 1 / a:\nINT b:\nSKIP\n");
        twice.read();
        twice.begin(1);
        Trial.due("cell(0)", twice.cell(0), 0);
        Trial.due("cell(1)", twice.cell(1), 0);
    }

    /** Promise 12: "NONE for another what, or if it is not kept." */
    private static void meetingsOutside() {
        MeetingHouse house = Trial.begun(1, "CHAN OF INT c:", "INT x:", "SEQ", "  PAR", "    c ! -1", "    c ? x",
                "  STOP");
        Trial.due("no meeting", house.meeting(0, 0), -1);
        Trial.run(house, 9);
        int[] due = {1, 0, 1, 2, 1, -1, 3};
        for (int what = 0; what <= 6; what++) {
            Trial.due("meeting(0, " + what + ")", house.meeting(0, what), due[what]);
            for (int k : new int[] {-1, 1, 63, 64, LEAST, MOST}) {
                Trial.due("meeting(" + k + ", " + what + ")", house.meeting(k, what), -1);
            }
        }
        for (int what : new int[] {-1, 7, LEAST, MOST}) {
            Trial.due("meeting(0, " + what + ")", house.meeting(0, what), -1);
        }
    }

    /** "(0 the latest, 64 are kept)". */
    private static void meetingsKept() {
        MeetingHouse house = Trial.begun(1, "CHAN OF INT c:", "INT x:", "PAR", "  SEQ i = 0 FOR 66", "    c ! i",
                "  SEQ i = 0 FOR 66", "    c ? x");
        for (int i = 0; i < 400 && house.count(8) < 64; i++) {
            Trial.run(house, 1);
        }
        Trial.due("the first of 64", house.meeting(63, 5), 0);
        Trial.due("the latest", house.meeting(0, 5), 63);
        Trial.due("one more than are kept", house.meeting(64, 5), -1);
        for (int i = 0; i < 50 && house.count(8) < 65; i++) {
            Trial.run(house, 1);
        }
        Trial.due("the first is gone", house.meeting(63, 5), 1);
        Trial.due("the latest", house.meeting(0, 5), 64);
        Trial.due("one more than are kept", house.meeting(64, 5), -1);
        Trial.due("all are counted", house.count(8), 65);
        Trial.due("the latest STEP", house.meeting(0, 6), house.count(5));
    }

    /** Promise 13: what could clash is refused by read(). */
    private static void noClashes() {
        Trial.reads(13, 4, "INT x:", "PAR", "  x := 1", "  x := 2");
        Trial.reads(14, 4, "CHAN OF INT c:", "PAR", "  c ! 1", "  c ! 2");
        Trial.reads(15, 6, "CHAN OF INT c:", "PAR", "  INT x:", "  c ? x", "  INT x:", "  c ? x");
        MeetingHouse house = Trial.begun(1, "[8] INT v:", "PAR i = 0 FOR 4", "  v[i] := v[i + 4]");
        for (int i = 0; i < 9; i++) {
            Trial.due("clashes()", house.clashes(), 0);
            Trial.run(house, 1);
        }
        Trial.due("ENDED", house.count(4), 2);
    }
}
