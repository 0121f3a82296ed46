/** The boundary cases of section 3, RUNS: meetings, ALTs, timers, screen and keyboard. */
public final class MeetBoundsTest {
    private static final int LEAST = Integer.MIN_VALUE;
    private static final int MOST = Integer.MAX_VALUE;

    public static void main(String[] args) {
        firstToCome();
        bothWays();
        partsAndPlaces();
        longMessages();
        variants();
        variantsAheadOfBothWays();
        altsBecomeReady();
        guardsWorkedOutOnce();
        guardsOfFalse();
        noGuard();
        drawsOfOne();
        priTakesTheFirst();
        replicatedAlts();
        guardsTaken();
        guardsOfKeys();
        clockOfSteps();
        aTimeThatIsNow();
        timesThatWrap();
        theNearestTime();
        readyBehindEachStep();
        screenAndKeyboard();
        linesOfChannels();
        messagesThatWait();
        oneVariantAlone();
        waysBehindVariants();
        altsOneBehindTheOther();
        timesInCommon();
        sixteenParts();
        manyGuards();
        noTimeOfAnEarlierAlt();
        Trial.finish("MeetBoundsTest");
    }

    private static void facts(MeetingHouse house, int k, int... want) {
        for (int what = 0; what < want.length; what++) {
            Trial.due("meeting(" + k + ", " + what + ")", house.meeting(k, what), want[what]);
        }
    }

    private static void states(MeetingHouse house, int p, int... want) {
        for (int what = 0; what < want.length; what++) {
            Trial.due("process(" + p + ", " + what + ")", house.process(p, what), want[what]);
        }
    }

    private static int next(int s) {
        return s * 1103515245 + 12345;
    }

    /** A seed with which the second STEP is done by process first, of two. */
    private static int seed(int first) {
        for (int seed = 0; seed < 1000; seed++) {
            if ((next(next(seed)) >>> 16) % 2 == first - 1) {
                return seed;
            }
        }
        return 0;
    }

    /** "the writer WAITS in both other cases"; "is a writer waiting, the parts come over .. else it WAITS". */
    private static void firstToCome() {
        String[] text = {"INT x:", "[3] CHAN OF INT c:", "PAR", "  c[1] ! 5", "  c[1] ? x"};
        MeetingHouse writer = Trial.begun(seed(1), text);
        Trial.run(writer, 2);
        states(writer, 1, 1, 4, 0, 2, 1, -1);
        states(writer, 2, 0, 5, 0, 0, 0, -1);
        Trial.due("no meeting", writer.count(8), 0);
        MeetingHouse reader = Trial.begun(seed(2), text);
        Trial.run(reader, 2);
        states(reader, 1, 0, 4, 0, 0, 0, -1);
        states(reader, 2, 2, 5, 0, 2, 1, -1);
        for (MeetingHouse house : new MeetingHouse[] {writer, reader}) {
            Trial.due("x is not there yet", house.cell(0), 0);
            Trial.run(house, 1);
            Trial.due("ENDED", house.count(4), 2);
            Trial.due("x", house.cell(0), 5);
            facts(house, 0, 2, 1, 1, 2, 1, 5, 3);
        }
    }

    /** "both go on (first the one that does the STEP, on its whole way, then the other)". */
    private static void bothWays() {
        // Each way takes 62 of the 100 that FUNCTIONs have in one STEP: the one that goes later has the FAULT.
        String[] text = {"CHAN OF INT c:", "INT x:", "INT FUNCTION f()", "  VALOF", "    SEQ i = 0 FOR 60", "      SEQ",
                "    RESULT 0",
            ":", "PAR", "  SEQ", "    c ! 1", "    VAL INT a IS f():", "    STOP", "  SEQ", "    c ? x",
                    "    VAL INT a IS f():", "    STOP"};
        MeetingHouse reader = Trial.ran(seed(1), text);
        Trial.due("the reader does the STEP", Trial.stopped(reader, 2), 1700);
        Trial.due("the writer goes later", Trial.stopped(reader, 1), 1211);
        MeetingHouse writer = Trial.ran(seed(2), text);
        Trial.due("the writer does the STEP", Trial.stopped(writer, 1), 1300);
        Trial.due("the reader goes later", Trial.stopped(writer, 2), 1611);
        // A whole way goes on behind the PAR, if it is the last branch of an inner one.
        String[] inner = {"CHAN OF INT c:", "INT x:", "INT FUNCTION f()", "  VALOF", "    SEQ i = 0 FOR 60",
                "      SEQ", "    RESULT 0",
            ":", "PAR", "  SEQ", "    PAR", "      c ! 1", "    VAL INT a IS f():", "    STOP", "  SEQ", "    TIMER t:",
                    "    SEQ",
            "      t ? AFTER 50", "      c ? x", "      VAL INT a IS f():", "      STOP"};
        MeetingHouse whole = Trial.ran(1, inner);
        Trial.due("the reader's way", Trial.stopped(whole, 2), 2100);
        Trial.due("the writer has ended, its PAR goes on", Trial.stopped(whole, 1), 1311);
        inner[11] = "      c ? x";
        inner[18] = "      c ! 1";
        Trial.due("the reader has ended, its PAR goes on", Trial.stopped(Trial.ran(1, inner), 1), 1311);
    }

    /** "the parts are worked out (behind c's index)"; "places (c's, then those behind ? from the left)". */
    private static void partsAndPlaces() {
        String[] ahead = {"PROTOCOL m IS INT; INT:", "[2] CHAN OF m c:", "INT z:", "[2] INT v:"};
        Trial.due("c's index, !", Trial.stopped(Trial.ran(1, Trial.with(ahead, "c[z - 1] ! 1 / z; 1")), 0), 503);
        Trial.due("the left part", Trial.stopped(Trial.ran(1, Trial.with(ahead, "c[z] ! 1 / z; v[z - 1]")), 0), 502);
        Trial.due("the right part", Trial.stopped(Trial.ran(1, Trial.with(ahead, "c[z] ! 1; v[z - 1]")), 0), 503);
        Trial.due("c's index, ?", Trial.stopped(Trial.ran(1, Trial.with(ahead, "c[z - 1] ? v[1 / z]; z")), 0), 503);
        Trial.due("the left place", Trial.stopped(Trial.ran(1, Trial.with(ahead, "c[z] ? v[1 / z]; v[z - 1]")), 0), 502);
        Trial.due("the right place", Trial.stopped(Trial.ran(1, Trial.with(ahead, "c[z] ? z; v[z - 1]")), 0), 503);
        // Places are worked out ahead of the meeting: the first part does not change the second place.
        MeetingHouse house = Trial.ran(1, Trial.with(ahead, "PAR", "  c[0] ! 1; 7", "  c[0] ? z; v[z]"));
        Trial.due("z", house.cell(0), 1);
        Trial.due("v[0]", house.cell(1), 7);
        Trial.due("v[1]", house.cell(2), 0);
        // What the writer has worked out stays so while it waits.
        MeetingHouse waits = Trial.ran(1, "INT x, y:", "CHAN OF INT c:", "PAR", "  INT a:", "  SEQ", "    a := 1",
                "    c ! a",
                "    a := 2", "  TIMER t:", "  SEQ", "    t ? AFTER 50", "    c ? x");
        Trial.due("x", waits.cell(0), 1);
    }

    /** Messages up to their bound of 1,000 cells. */
    private static void longMessages() {
        String parts = "[200] INT; [200] INT; [200] INT; [200] INT; ";
        for (int seed = 0; seed < 4; seed++) {
            MeetingHouse house = Trial.begun(seed, "PROTOCOL m IS " + parts + "[200] INT:", "CHAN OF m c:",
                    "[200] INT a, b, d, e, f:",
                    "[200] INT v:", "SEQ", "  SEQ i = 0 FOR 200", "    v[i] := i", "  PAR", "    c ! v; v; v; v; v",
                    "    c ? a; b; d; e; f");
            Trial.run(house, 2000);
            Trial.due("ENDED", house.count(4), 2);
            for (int i = 0; i < 1000; i += 199) {
                Trial.due("cell(" + i + ")", house.cell(i), i % 200);
            }
            Trial.due("the last", house.cell(999), 199);
            facts(house, 0, 2, 0, 1, 2, 1000, 0);
            MeetingHouse tagged = Trial.ran(seed, "PROTOCOL m", "  CASE", "    n", "    t; " + parts + "[199] INT", ":",
                    "CHAN OF m c:",
                    "[200] INT a, b, d, e:", "[199] INT f, w:", "[200] INT v:", "PAR", "  c ! t; v; v; v; v; w",
                            "  c ? CASE", "    t; a; b; d; e; f", "      f[198] := 4");
            Trial.due("ENDED", tagged.count(4), 2);
            Trial.due("the last", tagged.cell(998), 4);
            facts(tagged, 0, 6, 0, 1, 2, 1000, 1);
        }
    }

    /** "the VARIANT of its tag is looked for when the message is there (FAULT 5, if there is none)". */
    private static void variants() {
        String[] ahead = {"PROTOCOL p", "  CASE", "    a", "    b; INT", ":", "CHAN OF p c:", "INT x, z:", "[2] INT v:",
                "PAR"};
        for (int first = 1; first <= 2; first++) {
            MeetingHouse none = Trial.begun(seed(first), Trial.with(ahead, "  SEQ", "    c ! b; 3", "    STOP",
                    "  c ? CASE", "    a", "      SKIP"));
            Trial.run(none, 2);
            states(none, 2, first == 2 ? 2 : 0, 13, 0, first == 2 ? 6 : 0, 0, -1);
            Trial.run(none, 1);
            states(none, 2, 7, 13, 0, 0, 0, 5);
            states(none, 1, 0, 12);
            Trial.due("the meeting is one in any case", none.count(8), 1);
            facts(none, 0, 6, 0, 1, 2, 2, 1, 3);
            MeetingHouse place = Trial.ran(seed(first), Trial.with(ahead, "  SEQ", "    c ! b; 3", "    STOP",
                    "  c ? CASE", "    a", "      SKIP",
                    "    b; v[z - 1]", "      SKIP"));
            Trial.due("a place's FAULT, at the ACT", Trial.stopped(place, 2), 1303);
            Trial.due("the writer went on", Trial.stopped(place, 1), 1200);
            Trial.due("meetings", place.count(8), 1);
            MeetingHouse good = Trial.ran(seed(first), Trial.with(ahead, "  c ! b; 3", "  c ? CASE", "    b; v[z + 1]",
                    "      x := v[1] + 1"));
            Trial.due("x", good.cell(0), 4);
            Trial.due("ENDED", good.count(4), 2);
        }
    }

    /** "its places are worked out then, and the parts come over, ahead of both ways". */
    private static void variantsAheadOfBothWays() {
        // 60 of the FUNCTION's work for the place, 60 for the writer's way: the writer has the FAULT.
        String[] text = {"PROTOCOL p", "  CASE", "    b; INT", ":", "CHAN OF p c:", "[2] INT v:",
                "INT FUNCTION f(VAL INT a)", "  VALOF",
            "    SEQ i = 0 FOR 60", "      SEQ", "    RESULT 0", ":", "PAR", "  SEQ", "    c ! b; 3",
                    "    VAL INT a IS f(1):", "    SKIP",
            "  c ? CASE", "    b; v[f(1)]", "      SEQ", "        SKIP"};
        for (int first = 1; first <= 2; first++) {
            MeetingHouse house = Trial.ran(seed(first), text);
            Trial.due("the writer's way comes later", Trial.stopped(house, 1), 1611);
            Trial.due("the reader has gone on", house.process(2, 0), -1);
            Trial.due("v[0]", house.cell(0), 3);
        }
    }

    /** "Is an ALT waiting with c in a GUARD that is TRUE (or has no E), that becomes READY; the writer WAITS". */
    private static void altsBecomeReady() {
        String[] text = {"INT x, y:", "[2] CHAN OF INT c:", "PAR", "  TIMER t:", "  SEQ", "    t ? AFTER 20",
                "    c[0] ! 5", "  ALT", "",
            "      STOP", "    c[1] ? x", "      STOP"};
        for (String guard : new String[] {"c[0] ? x", "TRUE & c[0] ? x", "y = 0 & c[y] ? x"}) {
            text[8] = "    " + guard;
            MeetingHouse house = Trial.begun(1, text);
            Trial.run(house, 3);
            states(house, 2, 3, 8, 0, 0, 0, -1);
            Trial.run(house, 2);
            states(house, 1, 1, 7, 0, 2, 0, -1);
            states(house, 2, 0, 8, 0, 0, 0, -1);
            Trial.due("no meeting yet", house.count(8), 0);
            Trial.run(house, 1);
            states(house, 1, -1);
            states(house, 2, 0, 10);
            Trial.due("x", house.cell(0), 5);
        }
        // Another channel, or a GUARD that is FALSE, leaves it waiting.
        for (String guard : new String[] {"FALSE & c[0] ? x", "y = 1 & c[0] ? x"}) {
            text[8] = "    " + guard;
            MeetingHouse house = Trial.ran(1, text);
            states(house, 1, 1, 7);
            states(house, 2, 3, 8);
            Trial.due("STANDS", house.count(4), 3);
        }
    }

    /** "ALT: when come to, of each GUARD .. the E .., its index, or AFTER's E, are worked out once". */
    private static void guardsWorkedOutOnce() {
        // Each time that they were worked out would take 92 of the 100 that FUNCTIONs have in one STEP.
        String[] ahead = {"INT x:", "[2] CHAN OF INT c:", "TIMER t:", "INT FUNCTION f(VAL INT a)", "  VALOF",
                "    SEQ i = 0 FOR a",
            "      SEQ", "    RESULT 0", ":", "PAR", "  SEQ", "    t ? AFTER 50", "    c[0] ! 7", "  SEQ", "    ALT"};
        String[] behind = {"        VAL INT a IS f(90):", "        STOP"};
        for (String guard : new String[] {"f(90) = 0 & c[0] ? x", "c[f(90)] ? x", "t ? AFTER f(90) + 30"}) {
            MeetingHouse house = Trial.ran(1, Trial.with(Trial.with(ahead, "      " + guard), behind));
            Trial.due(guard, Trial.stopped(house, 2), 1800);
        }
        for (String guard : new String[] {"f(90) = 0 & SKIP", "f(90) = 0 & t ? x"}) {
            MeetingHouse house = Trial.ran(1, Trial.with(Trial.with(ahead, "      " + guard), behind));
            Trial.due(guard + " is taken in the STEP that works it out", Trial.stopped(house, 2), 1711);
        }
    }

    /** "then, if it is not FALSE, its index, or AFTER's E". */
    private static void guardsOfFalse() {
        String[] ahead = {"INT z:", "TIMER t:", "[2] CHAN OF INT c:", "ALT"};
        Trial.due("no index", Trial.ran(1, Trial.with(ahead, "  z = 1 & c[z - 1] ? z", "    SKIP", "  SKIP",
                "    z := 9")).cell(0), 9);
        Trial.due("no time", Trial.ran(1, Trial.with(ahead, "  z = 1 & t ? AFTER 1 / z", "    SKIP", "  SKIP",
                "    z := 9")).cell(0), 9);
        Trial.due("an index", Trial.stopped(Trial.ran(1, Trial.with(ahead, "  SKIP", "    SKIP",
                "  z = 0 & c[z - 1] ? z", "    SKIP")), 0), 703);
        Trial.due("a time", Trial.stopped(Trial.ran(1, Trial.with(ahead, "  SKIP", "    SKIP",
                "  z = 0 & t ? AFTER 1 / z", "    SKIP")), 0), 702);
        Trial.due("an E", Trial.stopped(Trial.ran(1, Trial.with(ahead, "  SKIP", "    SKIP", "  z = (1 / z) & SKIP",
                "    SKIP")), 0), 702);
        // The places behind ? are worked out when the GUARD is taken.
        Trial.due("a place", Trial.ran(1, "INT z:", "[2] INT v:", "CHAN OF INT c:", "ALT", "  c ? v[1 / z]", "    SKIP",
                "  SKIP",
                "    z := 9").cell(0), 9);
    }

    /** "(STOPPED, FAULT 0, when no GUARD is TRUE or without E)". */
    private static void noGuard() {
        Trial.due("none", Trial.stopped(Trial.ran(1, "ALT"), 0), 100);
        Trial.due("none with PRI", Trial.stopped(Trial.ran(1, "PRI ALT"), 0), 100);
        Trial.due("FOR 0", Trial.stopped(Trial.ran(1, "ALT i = 0 FOR 0", "  SKIP", "    SKIP"), 0), 100);
        Trial.due("all FALSE", Trial.stopped(Trial.ran(1, "INT x:", "ALT", "  FALSE & SKIP", "    SKIP",
                "  x = 1 & keyboard ? x", "    SKIP"),
                0), 200);
        Trial.due("FALSE for each value", Trial.stopped(Trial.ran(1, "ALT i = 0 FOR 3", "  i = 3 & SKIP", "    SKIP"),
                0), 100);
        MeetingHouse waits = Trial.ran(1, "INT x:", "CHAN OF INT c:", "ALT", "  FALSE & SKIP", "    SKIP",
                "  TRUE & c ? x", "    SKIP");
        states(waits, 0, 3, 3, -1, 0, 0, -1);
    }

    /** "else the k-th of them, drawn as above (also of one)". */
    private static void drawsOfOne() {
        for (int seed = 0; seed < 40; seed++) {
            // The ALT draws, whether it has one or two that are READY; that tells who goes first behind it.
            MeetingHouse house = Trial.begun(seed, "SEQ", "  ALT", "    SKIP", "      PAR", "        STOP",
                    "        STOP");
            Trial.run(house, 3);
            int s = next(next(next(next(seed))));
            int first = (s >>> 16) % 2;
            Trial.due("seed " + seed, house.process(1 + first, 0), 7);
            Trial.due("seed " + seed, house.process(2 - first, 0), 0);
            MeetingHouse pri = Trial.begun(seed, "SEQ", "  PRI ALT", "    SKIP", "      PAR", "        STOP",
                    "        STOP");
            Trial.run(pri, 3);
            s = next(next(next(seed)));
            first = (s >>> 16) % 2;
            Trial.due("PRI draws none, seed " + seed, pri.process(1 + first, 0), 7);
            // One that waits has drawn none.
            MeetingHouse waits = Trial.begun(seed, "TIMER t:", "ALT", "  t ? AFTER 5", "    PAR", "      STOP",
                    "      STOP");
            Trial.run(waits, 4);
            s = next(next(next(next(next(seed)))));
            first = (s >>> 16) % 2;
            Trial.due("seed " + seed + ", behind a time", waits.process(1 + first, 0), 7);
        }
    }

    /** "With PRI the first one". */
    private static void priTakesTheFirst() {
        String[] text = {"INT x, r:", "[2] CHAN OF INT c:", "TIMER t:", "PAR", "  c[0] ! 1", "  c[1] ! 2", "  SEQ",
                "    t ? AFTER 50",
            "    PRI ALT", "      FALSE & SKIP", "        r := 1", "      c[1] ? x", "        r := 2", "      c[0] ? x",
                    "        r := 3", "      SKIP",
            "        r := 4"};
        for (int seed = 0; seed < 10; seed++) {
            Trial.due("seed " + seed, Trial.ran(seed, text).cell(1), 2);
        }
        MeetingHouse skip = Trial.ran(1, "INT x, r:", "PRI ALT", "  keyboard ? x", "    r := 1", "  SKIP", "    r := 2");
        Trial.due("keyboard without an INPUT is not READY", skip.cell(1), 2);
        MeetingHouse key = Trial.begun(1, "INT x, r:", "PRI ALT", "  keyboard ? x", "    r := 1", "  SKIP", "    r := 2");
        key.key(8);
        Trial.run(key, 9);
        Trial.due("keyboard with an INPUT is READY", key.cell(1), 1);
        Trial.due("x", key.cell(0), 8);
    }

    /** "(with a REPLICATOR: for each value)". */
    private static void replicatedAlts() {
        for (int base : new int[] {0, 1, -3, MOST - 1}) {
            MeetingHouse house = Trial.ran(1, "INT r:", "ALT i = " + (base < 0 ? "(" + base + ")" : base) + " FOR 64",
                    "  i = ((" + base + ") PLUS 63) & SKIP", "    r := i");
            Trial.due("the last value", house.cell(0), base + 63);
            MeetingHouse first = Trial.ran(1, "INT r:", "PRI ALT i = " + (base < 0 ? "(" + base + ")" : base)
                    + " FOR 64", "  SKIP", "    r := i");
            Trial.due("the first value", first.cell(0), base);
        }
        // All of 64 are drawn from.
        int seen = 0;
        for (int seed = 0; seed < 60; seed++) {
            MeetingHouse house = Trial.ran(seed, "INT r:", "ALT i = 0 FOR 64", "  SKIP", "    r := i");
            Trial.due("seed " + seed, house.cell(0), (next(next(seed)) >>> 16) % 64);
            seen |= 1 << house.cell(0) / 8;
        }
        Trial.due("many were taken", Integer.bitCount(seen) > 4, true);
        Trial.due("an index for each value", Trial.stopped(Trial.ran(1, "INT x:", "[3] CHAN OF INT c:",
                "ALT i = 1 FOR 3", "  c[i] ? x", "    SKIP"),
                0), 403);
    }

    /** "the GUARD (also for what a GUARD that was taken does)". */
    private static void guardsTaken() {
        String[] ahead = {"INT z:", "[2] INT v:", "TIMER t:", "CHAN OF INT c:", "PAR", "  c ! 1", "  SEQ", "    ALT",
                "      FALSE & SKIP",
            "        SKIP"};
        Trial.due("a place", Trial.stopped(Trial.ran(1, Trial.with(ahead, "      c ? v[z - 1]", "        SKIP")), 2),
                1103);
        Trial.due("a place of a timer", Trial.stopped(Trial.ran(1, Trial.with(ahead, "      t ? v[z - 1]",
                "        SKIP")), 2), 1103);
        Trial.due("the PROCESS behind it has its own lines", Trial.stopped(Trial.ran(1, Trial.with(ahead,
                "      t ? v[z]",
                "        VAL INT a IS 1 / z:", "        SKIP")), 2), 1202);
        Trial.due("and its ACTs", Trial.stopped(Trial.ran(1, Trial.with(ahead, "      SKIP", "        z := 1 / z")), 2),
                1202);
        Trial.due("no meeting", Trial.ran(1, Trial.with(ahead, "      c ? v[z - 1]", "        SKIP")).count(8), 0);
        String[] tags = {"PROTOCOL p", "  CASE", "    a", "    b; INT", ":", "CHAN OF p c:", "INT z:", "[2] INT v:",
                "PAR", "  c ! b; 1", "  ALT",
            "    c ? CASE"};
        Trial.due("no VARIANT", Trial.stopped(Trial.ran(1, Trial.with(tags, "      a", "        SKIP")), 2), 1205);
        Trial.due("a VARIANT's place", Trial.stopped(Trial.ran(1, Trial.with(tags, "      b; v[z - 1]",
                "        SKIP")), 2), 1203);
        Trial.due("the meeting is one", Trial.ran(1, Trial.with(tags, "      a", "        SKIP")).count(8), 1);
        Trial.due("v[1]", Trial.ran(1, Trial.with(tags, "      b; v[z + 1]", "        SKIP")).cell(2), 1);
    }

    /** "keyboard with an INPUT"; "an ALT that does is READY". */
    private static void guardsOfKeys() {
        MeetingHouse house = Trial.ran(1, "INT x:", "SEQ i = 0 FOR 2", "  ALT", "    keyboard ? x", "      SKIP");
        states(house, 0, 3, 3, -1, 0, 0, -1);
        Trial.due("key", house.key(300), true);
        states(house, 0, 0, 3);
        Trial.due("it waits till the ALT looks again", house.count(11), 1);
        Trial.due("x", house.cell(0), 0);
        Trial.due("another key", house.key(7), true);
        Trial.run(house, 1);
        Trial.due("x", house.cell(0), 300 & 255);
        Trial.due("INPUT", house.count(11), 1);
        Trial.run(house, 9);
        Trial.due("x", house.cell(0), 7);
        Trial.due("no meetings", house.count(8), 0);
    }

    /** "CLOCK (0 at first) grows by 1 behind each STEP"; "A timer ? v: v is CLOCK." */
    private static void clockOfSteps() {
        MeetingHouse house = Trial.begun(1, "INT a, b:", "TIMER t:", "SEQ", "  t ? a", "  SKIP", "  t ? b");
        Trial.due("at first", house.count(9), 0);
        Trial.run(house, 1);
        Trial.due("a", house.cell(0), 0);
        Trial.due("behind a STEP", house.count(9), 1);
        Trial.run(house, 2);
        Trial.due("b", house.cell(1), 2);
        Trial.due("CLOCK", house.count(9), 3);
        Trial.run(house, 9);
        Trial.due("no STEP, no time", house.count(9), 3);
    }

    /** "? AFTER E: goes on at once if CLOCK AFTER E; else WAITS till that is so, is READY then, and goes on as its next
     * STEP". */
    private static void aTimeThatIsNow() {
        // At CLOCK 2: 1 is past, 2 is now, 3 is still to come.
        for (int e = 0; e <= 4; e++) {
            MeetingHouse house = Trial.begun(1, "TIMER t:", "INT x:", "SEQ", "  SKIP", "  SKIP", "  t ? AFTER " + e,
                    "  t ? x");
            Trial.run(house, 3);
            boolean atOnce = e < 2;
            // Behind its STEP CLOCK is 3, and AFTER 2 it is READY again.
            Trial.due("AFTER " + e, house.process(0, 0), atOnce || e == 2 ? 0 : 4);
            Trial.due("its line", house.process(0, 1), atOnce ? 7 : 6);
            Trial.run(house, 9);
            Trial.due("x", house.cell(0), atOnce ? 3 : e + 2);
        }
        MeetingHouse alt = Trial.begun(1, "TIMER t:", "INT x:", "SEQ", "  SKIP", "  ALT", "    t ? AFTER 1",
                "      t ? x", "    FALSE & SKIP", "      SKIP");
        Trial.run(alt, 2);
        states(alt, 0, 0, 5);
        Trial.run(alt, 9);
        Trial.due("x", alt.cell(0), 3);
        Trial.due("steps", alt.count(5), 4);
    }

    private static void timesThatWrap() {
        String[][] rows = {{"MOSTPOS INT", "" + (LEAST + 1)}, {"(MOSTPOS INT) - 1", "" + LEAST}, {"MOSTNEG INT", ""
                + (LEAST + 2)},
            {"(MOSTNEG INT) + 1", "1"}, {"-1", "1"}, {"0", "2"}};
        for (String[] row : rows) {
            MeetingHouse house = Trial.ran(1, "INT x:", "TIMER t:", "SEQ", "  t ? AFTER " + row[0], "  t ? x");
            Trial.due("AFTER " + row[0], house.cell(0), Long.parseLong(row[1]));
            MeetingHouse alt = Trial.ran(1, "INT x:", "TIMER t:", "SEQ", "  ALT", "    t ? AFTER " + row[0],
                    "      t ? x");
            Trial.due("ALT AFTER " + row[0], alt.cell(0), Long.parseLong(row[1]));
        }
        // Behind the wrap CLOCK goes on, and times are compared as before.
        MeetingHouse far = Trial.ran(1, "INT x, y:", "TIMER t:", "SEQ", "  t ? AFTER MOSTPOS INT", "  t ? x",
                "  t ? AFTER x PLUS 10", "  t ? y");
        Trial.due("x", far.cell(0), LEAST + 1);
        Trial.due("y", far.cell(1), LEAST + 13);
    }

    /** "CLOCK becomes the nearest one at which one of these is READY". */
    private static void theNearestTime() {
        MeetingHouse house = Trial.begun(1, "[3] INT v:", "TIMER t:", "PAR", "  SEQ", "    t ? AFTER 300",
                "    t ? v[0]", "  SEQ",
                "    t ? AFTER 100", "    t ? v[1]", "  ALT", "    t ? AFTER 900", "      STOP", "    t ? AFTER 200",
                        "      t ? v[2]");
        Trial.run(house, 4);
        Trial.due("all wait", house.count(9), 4);
        Trial.due("it goes on", house.count(4), 1);
        Trial.due("run(0) makes no STEP", Trial.run(house, 0), 0);
        Trial.due("CLOCK stays", house.count(9), 4);
        Trial.run(house, 1);
        Trial.due("101, and behind the STEP", house.count(9), 102);
        Trial.run(house, 1);
        Trial.due("CLOCK", house.count(9), 103);
        Trial.run(house, 1);
        Trial.due("201, and behind the STEP", house.count(9), 202);
        Trial.run(house, 2);
        Trial.due("301, and behind the STEP", house.count(9), 302);
        Trial.run(house, 9);
        int[] due = {302, 102, 202};
        for (int i = 0; i < 3; i++) {
            Trial.due("v[" + i + "]", house.cell(i), due[i]);
        }
        // One that is READY keeps CLOCK from becoming anything.
        MeetingHouse busy = Trial.begun(1, "TIMER t:", "PAR", "  t ? AFTER 1000", "  WHILE TRUE", "    SKIP");
        Trial.run(busy, 500);
        Trial.due("CLOCK", busy.count(9), 500);
        Trial.due("it waits", busy.process(1, 0), 4);
        Trial.run(busy, 500);
        Trial.due("1,000 is not AFTER 1,000", busy.process(1, 0), 4);
        Trial.run(busy, 1);
        Trial.due("READY behind the STEP", busy.process(1, 0) != 4, true);
    }

    /** "Behind each STEP, those whose time has come become READY (ALTs, too)." */
    private static void readyBehindEachStep() {
        MeetingHouse house = Trial.begun(1, "INT x, y:", "TIMER t:", "CHAN OF INT c:", "PAR", "  t ? AFTER 9", "  ALT",
                "    t ? AFTER 9", "      SKIP",
                "    c ? x", "      SKIP", "  SEQ i = 0 FOR 100", "    y := i");
        boolean waited = false;
        for (int i = 0; i < 10; i++) {
            waited = waited || house.process(1, 0) == 4 && house.process(2, 0) == 3;
            Trial.run(house, 1);
        }
        Trial.due("both have waited", waited, true);
        Trial.due("CLOCK", house.count(9), 10);
        Trial.due("no ALT", house.process(1, 0), 0);
        Trial.due("the ALT", house.process(2, 0), 0);
        Trial.due("its line", house.process(2, 1), 6);
    }

    /** "through FORMALs, screen read from and keyboard written to WAIT for good. (With these there are no meetings.)" */
    private static void screenAndKeyboard() {
        String[] ahead = {"PROC hear(CHAN OF BYTE s, BYTE b)", "  s ? b", ":", "PROC tell(CHAN OF INT k)", "  k ! 1", ":",
            "PROC choose(CHAN OF BYTE s, BYTE b)", "  ALT", "    s ? b", "      SKIP", ":", "BYTE b:", "INT x:"};
        MeetingHouse hears = Trial.ran(1, Trial.with(ahead, "PAR", "  hear(screen, b)", "  screen ! 'a'"));
        states(hears, 1, 2, 2, 0, 0, 0, -1);
        Trial.dueText("OUTPUT", Trial.shown(hears), "a");
        Trial.due("STANDS", hears.count(4), 3);
        MeetingHouse tells = Trial.ran(1, Trial.with(ahead, "PAR", "  tell(keyboard)", "  keyboard ? x"));
        states(tells, 1, 1, 5, 0, 0, 0, -1);
        states(tells, 2, 6, 16, 0, 0, 0, -1);
        tells.key(9);
        Trial.due("x", tells.cell(1), 9);
        states(tells, 1, 1, 5);
        Trial.due("STANDS", tells.count(4), 3);
        MeetingHouse alt = Trial.ran(1, Trial.with(ahead, "PAR", "  tell(keyboard)", "  ALT", "    keyboard ? x",
                "      SKIP"));
        states(alt, 2, 3, 16);
        Trial.due("KEY", alt.count(4), 4);
        MeetingHouse chooses = Trial.ran(1, Trial.with(ahead, "PAR", "  choose(screen, b)", "  screen ! 'a'"));
        states(chooses, 1, 3, 8);
        for (MeetingHouse house : new MeetingHouse[] {hears, tells, alt, chooses}) {
            Trial.due("no meetings", house.count(8), 0);
        }
    }

    /** Promise 10: "the line where the channel .. is declared (as a DECLARATION of channels, not a FORMAL; 0 else)". */
    private static void linesOfChannels() {
        String[] text = {"[2] CHAN OF INT a, b:", "CHAN OF INT d IS b[1]:", "PROC p(CHAN OF INT c)", "  c ! 1", ":",
                "PROC q([] CHAN OF INT c)",
            "  INT x:", "  c[0] ? x", ":", "PAR", "  p(d)", "  q(a)", "  SEQ", "    CHAN OF INT e, f:", "    f ! 1"};
        MeetingHouse house = Trial.ran(1, text);
        states(house, 1, 1, 4, 0, 1, 1, -1);
        states(house, 2, 2, 8, 0, 1, 0, -1);
        states(house, 3, 1, 15, 0, 14, 0, -1);
        states(house, 0, 5, 10, -1, 0, 0, -1);
    }

    /** Messages of several writers wait side by side, each as it was worked out. */
    private static void messagesThatWait() {
        String[] text = {"[6] INT r:", "PROTOCOL m IS INT; [2] INT:", "PROTOCOL k", "  CASE", "    g", "    h; INT",
                ":", "CHAN OF m c, d:",
            "CHAN OF k e, f:", "CHAN OF INT a, b:", "TIMER t:", "INT x:", "[2] INT v:", "PAR", "  c ! 1; [2, 3]",
                    "  d ! 4; [5, 6]", "  e ! h; 7",
            "  f ! g", "  a ! 8", "  b ! 9", "  SEQ", "    t ? AFTER 100", "    a ? r[0]", "    c ? x; v",
                    "    r[1] := (x * 100) + ((v[0] * 10) + v[1])",
            "    e ? CASE", "      g", "        STOP", "      h; r[2]", "        SKIP", "    d ? x; v",
                    "    r[3] := (x * 100) + ((v[0] * 10) + v[1])",
            "    f ? CASE", "      h; x", "        STOP", "      g", "        r[4] := 1", "    b ? r[5]"};
        for (int seed = 0; seed < 5; seed++) {
            MeetingHouse house = Trial.ran(seed, text);
            Trial.due("ENDED", house.count(4), 2);
            int[] due = {8, 123, 7, 456, 1, 9};
            for (int i = 0; i < due.length; i++) {
                Trial.due("r[" + i + "]", house.cell(i), due[i]);
            }
            facts(house, 0, 10, 0, 6, 7, 1, 9);
            facts(house, 1, 9, 0, 4, 7, 1, 0);
            facts(house, 2, 8, 0, 2, 7, 3, 4);
            facts(house, 3, 9, 0, 3, 7, 2, 1);
        }
    }

    /** Of the VARIANTs only the one of the tag is done, wherever it stands. */
    private static void oneVariantAlone() {
        String[] ahead = {"PROTOCOL k", "  CASE", "    a; INT", "    b; INT", "    c; INT", ":", "CHAN OF k ch:",
                "[3] INT r:", "PAR"};
        String[] tags = {"a", "b", "c"};
        for (int tag = 0; tag < 3; tag++) {
            for (int first = 1; first <= 2; first++) {
                String[] reader = {"  ch ! " + tags[tag] + "; 5", "  ch ? CASE", "    c; r[2]",
                        "      r[2] := r[2] + 1", "    a; r[0]",
                    "      r[0] := r[0] + 1", "    b; r[1]", "      r[1] := r[1] + 1"};
                MeetingHouse house = Trial.ran(seed(first), Trial.with(ahead, reader));
                Trial.due("ENDED", house.count(4), 2);
                for (int i = 0; i < 3; i++) {
                    Trial.due("r[" + i + "] for " + tags[tag], house.cell(i), i == tag ? 6 : 0);
                }
                String[] chosen = {"  ch ! " + tags[tag] + "; 5", "  ALT", "    ch ? CASE", "      c; r[2]",
                        "        r[2] := r[2] + 1", "      a; r[0]",
                    "        r[0] := r[0] + 1", "      b; r[1]", "        r[1] := r[1] + 1", "    FALSE & SKIP",
                            "      STOP"};
                MeetingHouse alt = Trial.ran(seed(first), Trial.with(ahead, chosen));
                Trial.due("ENDED", alt.count(4), 2);
                for (int i = 0; i < 3; i++) {
                    Trial.due("r[" + i + "] for " + tags[tag] + " in an ALT", alt.cell(i), i == tag ? 6 : 0);
                }
            }
        }
    }

    /** Places of a VARIANT, then the way of the one that does the STEP, then the other's. */
    private static void waysBehindVariants() {
        String[] text = {"PROTOCOL p", "  CASE", "    b; INT", ":", "CHAN OF p c:", "[2] INT v:", "INT FUNCTION f()",
                "  VALOF",
            "    SEQ i = 0 FOR 40", "      SEQ", "    RESULT 0", ":", "PAR", "  SEQ", "    c ! b; 3",
                    "    VAL INT a IS f():", "    STOP", "  c ? CASE",
            "    b; v[f()]", "      VAL INT a IS f():", "      STOP"};
        MeetingHouse reader = Trial.ran(seed(1), text);
        Trial.due("the reader does the STEP", Trial.stopped(reader, 2), 2100);
        Trial.due("the writer goes later", Trial.stopped(reader, 1), 1611);
        MeetingHouse writer = Trial.ran(seed(2), text);
        Trial.due("the writer does the STEP", Trial.stopped(writer, 1), 1700);
        Trial.due("the reader goes later", Trial.stopped(writer, 2), 2011);
    }

    /** A process waits with the GUARDs of its present ALT alone. */
    private static void altsOneBehindTheOther() {
        MeetingHouse house = Trial.ran(1, "INT x:", "TIMER t:", "CHAN OF INT c:", "SEQ", "  ALT", "    t ? AFTER 20",
                "      SKIP", "    keyboard ? x",
                "      STOP", "  ALT", "    c ? x", "      SKIP");
        states(house, 0, 3, 10);
        Trial.due("it waits for no time, and for no key", house.count(4), 3);
        Trial.due("key", house.key(1), true);
        states(house, 0, 3, 10);
        MeetingHouse back = Trial.ran(1, "INT x:", "TIMER t:", "CHAN OF INT c, d:", "PAR", "  SEQ", "    ALT",
                "      c ? x", "        SKIP", "      d ? x",
                "        SKIP", "    ALT", "      d ? x", "        SKIP", "      keyboard ? x", "        SKIP", "  SEQ",
                        "    t ? AFTER 9", "    c ! 1", "    c ! 2");
        states(back, 1, 3, 11);
        states(back, 2, 1, 19);
        Trial.due("KEY", back.count(4), 4);
    }

    /** Of several that become READY at one time the seed chooses, by their numbers. */
    private static void timesInCommon() {
        for (int seed = 0; seed < 30; seed++) {
            MeetingHouse house = Trial.begun(seed, "TIMER t:", "PAR i = 0 FOR 3", "  SEQ", "    t ? AFTER 100",
                    "    STOP");
            Trial.run(house, 4);
            Trial.due("all wait", house.process(1, 0) + house.process(2, 0) + house.process(3, 0), 12);
            Trial.run(house, 1);
            int s = seed;
            for (int i = 0; i < 5; i++) {
                s = next(s);
            }
            int who = (s >>> 16) % 3;
            for (int p = 0; p < 3; p++) {
                Trial.due("seed " + seed + ", process " + (p + 1), house.process(p + 1, 1), p == who ? 5 : 4);
                Trial.due("READY", house.process(p + 1, 0), 0);
            }
        }
    }

    /** Messages with as many parts as can be. */
    private static void sixteenParts() {
        for (int first = 1; first <= 2; first++) {
            StringBuilder outs = new StringBuilder();
            StringBuilder places = new StringBuilder();
            for (int i = 0; i < 16; i++) {
                outs.append(i == 0 ? "" : "; ").append(i + 100);
                places.append(i == 0 ? "" : "; ").append("v[").append(15 - i).append("]");
            }
            String parts = "INT" + "; INT".repeat(15);
            MeetingHouse plain = Trial.ran(seed(first), "[16] INT v:", "PROTOCOL m IS " + parts + ":", "CHAN OF m c:",
                    "PAR", "  c ! " + outs,
                    "  c ? " + places);
            Trial.due("ENDED", plain.count(4), 2);
            for (int i = 0; i < 16; i++) {
                Trial.due("v[" + i + "]", plain.cell(i), 115 - i);
            }
            facts(plain, 0, 3, 0, 1, 2, 16, 100, 3);
            MeetingHouse tagged = Trial.ran(seed(first), "[15] INT v:", "PROTOCOL m", "  CASE", "    t"
                    + "; INT".repeat(15), ":", "CHAN OF m c:", "PAR",
                    "  c ! t; " + outs.substring(5), "  c ? CASE", "    t; " + places.substring(7), "      SKIP");
            Trial.due("ENDED", tagged.count(4), 2);
            for (int i = 0; i < 15; i++) {
                Trial.due("v[" + i + "]", tagged.cell(i), 115 - i);
            }
            facts(tagged, 0, 6, 0, 1, 2, 16, 0, 3);
        }
    }

    /** An ALT with many GUARDs waits with each of them, the last one, too. */
    private static void manyGuards() {
        for (int n : new int[] {1, 2, 7, 8, 9, 15, 16, 17, 31, 32, 33, 63, 64}) {
            for (int k : new int[] {0, n / 2, n - 1}) {
                MeetingHouse house = Trial.ran(1, "INT x, r:", "[64] CHAN OF INT c:", "PAR", "  TIMER t:", "  SEQ",
                        "    t ? AFTER 50",
                        "    c[" + k + "] ! 7", "  ALT i = 0 FOR " + n, "    c[i] ? x", "      r := i");
                Trial.due("ENDED with " + n, house.count(4), 2);
                Trial.due("GUARD " + k + " of " + n, house.cell(1), k);
                // GUARD k has the nearest time, the others later ones, the farther they stand from it.
                String far = "((i - " + k + ") * (i - " + k + ")) * 40";
                MeetingHouse time = Trial.ran(1, "INT x, r:", "TIMER t:", "SEQ", "  ALT i = 0 FOR " + n,
                        "    t ? AFTER 60 + (" + far + ")",
                        "      r := i", "  t ? x");
                Trial.due("ENDED with " + n, time.count(4), 2);
                Trial.due("the time of GUARD " + k + " of " + n, time.cell(1), k);
                Trial.due("CLOCK", time.cell(0), 63);
            }
        }
    }

    /** A process that waits to write waits for no time, whatever its ALT did before, and whatever it writes. */
    private static void noTimeOfAnEarlierAlt() {
        MeetingHouse house = Trial.ran(1, "[3] INT r:", "PROTOCOL m IS INT; INT:", "CHAN OF m c:", "TIMER t:", "PAR",
                "  SEQ", "    ALT",
                "      t ? AFTER 20", "        SKIP", "    c ! 4; 500", "  SEQ", "    t ? AFTER 1000", "    t ? r[2]",
                        "    c ? r[0]; r[1]");
        Trial.due("ENDED", house.count(4), 2);
        Trial.due("the nearest time", house.cell(2), 1002);
        Trial.due("r[1]", house.cell(1), 500);
    }
}
