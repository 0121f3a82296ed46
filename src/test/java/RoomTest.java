import java.util.ArrayList;
import java.util.List;

/** Cells that are taken and freed in many orders: each DECLARATION keeps its own, whatever stands beside it. */
public final class RoomTest {
    public static void main(String[] args) {
        manyDeclarations();
        manyProcesses();
        inAndOut();
        sizesThatGrow();
        valuesAreNoPlaces();
        nothingIsFreedTwice();
        copies();
        leapfrog();
        nothingBelow();
        Trial.finish("RoomTest");
    }

    private static String[] text(List<String> lines) {
        return lines.toArray(new String[0]);
    }

    /** 64 branches with 10 DECLARATIONS each: 640 stand open at once, and each keeps what it was given. */
    private static void manyDeclarations() {
        List<String> lines = new ArrayList<>();
        lines.add("[64] INT sum:");
        lines.add("[64] CHAN OF INT go:");
        lines.add("PAR");
        lines.add("  TIMER t:");
        lines.add("  SEQ");
        lines.add("    t ? AFTER 1800");
        lines.add("    SEQ n = 0 FOR 64");
        lines.add("      go[(n * 13) \\ 64] ! n");
        lines.add("  PAR n = 0 FOR 64");
        for (char c = 'a'; c <= 'j'; c++) {
            lines.add("    " + (c % 2 == 0 ? "INT " + c : "[3] INT " + c) + ":");
        }
        lines.add("    CHAN OF INT own:");
        lines.add("    INT got:");
        lines.add("    SEQ");
        for (char c = 'a'; c <= 'j'; c++) {
            lines.add("      " + (c % 2 == 0 ? c : c + "[2]") + " := (n * 100) + " + (int) c);
        }
        lines.add("      go[n] ? got");
        lines.add("      sum[n] := ((((a[2] + b) + (c[2] + d)) + ((e[2] + f) + (g[2] + h))) + (i[2] + j)) + (a[0] + c[1])");
        MeetingHouse house = Trial.begun(11, text(lines));
        // The two PARs, the time that is waited for, and eleven ACTs of each branch: all wait then.
        Trial.run(house, 3 + 64 * 11);
        Trial.due("CLOCK", house.count(9), 707);
        Trial.due("cells", house.count(12), 64 + 64 + 64 * (5 * 1 + 5 * 3 + 2));
        Trial.run(house, 2000);
        Trial.due("ENDED", house.count(4), 2);
        int letters = 0;
        for (char c = 'a'; c <= 'j'; c++) {
            letters += c;
        }
        for (int n = 0; n < 64; n++) {
            Trial.due("sum[" + n + "]", house.cell(n), 1000 * n + letters);
        }
        Trial.due("meetings", house.count(8), 64);
    }

    /** 78 branches with 40 names each. */
    private static void manyProcesses() {
        StringBuilder names = new StringBuilder();
        StringBuilder sum = new StringBuilder("0");
        List<String> sets = new ArrayList<>();
        for (int k = 0; k < 40; k++) {
            String name = "n" + k;
            names.append(k == 0 ? "" : ", ").append(name);
            if (k % 8 == 7) {
                sets.add("        n" + (k - 7) + ", n" + k + " := i + " + k + ", i * 2");
                sum = new StringBuilder("(" + sum + ") + (n" + (k - 7) + " + n" + k + ")");
            }
        }
        List<String> lines = new ArrayList<>();
        lines.add("[78] INT r:");
        lines.add("PAR");
        for (int half = 0; half < 2; half++) {
            lines.add("  PAR i = " + half * 60 + " FOR " + (half == 0 ? 60 : 17));
            lines.add("    INT " + names + ":");
            lines.add("    SEQ");
            lines.add("      SEQ");
            lines.addAll(sets);
            lines.add("      r[i] := " + sum);
        }
        MeetingHouse house = Trial.begun(5, text(lines));
        Trial.run(house, 2000);
        Trial.due("80 processes", house.count(7), 80);
        Trial.due("ENDED", house.count(4), 2);
        for (int i = 0; i < 77; i++) {
            Trial.due("r[" + i + "]", house.cell(i), 5 * (i + i * 2) + 7 + 15 + 23 + 31 + 39);
        }
    }

    /** Branches that come and go beside one that stays: its cells stay as they are. */
    private static void inAndOut() {
        MeetingHouse house = Trial.begun(3, "[3] INT r:", "CHAN OF INT c:", "PAR", "  [150] INT keep:", "  INT got:",
                "  SEQ",
                "    SEQ i = 0 FOR 150", "      keep[i] := i + 7", "    c ? got", "    SEQ i = 0 FOR 150", "      IF",
                "        keep[i] = (i + 7)", "          r[0] := r[0] + 1", "        TRUE", "          SKIP", "  SEQ",
                        "    SEQ i = 0 FOR 40",
                "      [200] INT a, b, d, e, f:", "      VAL [] INT g IS a:", "      SEQ",
                        "        a[0], b[199], d[5], e[6], f[7] := i, i, i, i, i",
                "        r[1] := ((a[0] + b[199]) + (d[5] + e[6])) + (f[7] + g[0])", "    c ! 1");
        Trial.run(house, 2000);
        Trial.due("ENDED", house.count(4), 2);
        Trial.due("all are as they were", house.cell(0), 150);
        Trial.due("the last of the others", house.cell(1), 39 * 5);
    }

    /** Room for more and more: 4,000 cells, 8,000, up to 20,000, with values in the first and the last. */
    private static void sizesThatGrow() {
        String ten = "a, b, c, d, e, f, g, h, k, l";
        MeetingHouse house = Trial.begun(9, "[5] INT r:", "[5] CHAN OF INT go:",
                "PROC p(VAL INT n, INT r, CHAN OF INT in)",
                "  [200] INT " + ten + ":", "  [199] INT m, o, q, s, t, u, v, w, x, y:", "  INT z:", "  SEQ",
                "    a[0], l[199], m[0], y[198] := n, n + 1, n + 2, n + 3", "    in ? z",
                        "    r := (a[0] + l[199]) + (m[0] + y[198])",
                ":", "PAR", "  SEQ", "    TIMER t:", "    t ? AFTER 500", "    SEQ i = 0 FOR 5",
                        "      go[(i * 2) \\ 5] ! 0",
                "  PAR i = 0 FOR 5", "    p(i * 10, r[i], go[i])");
        // The two PARs, the time, and a call, := and ? of each branch: all wait then.
        Trial.run(house, 3 + 15);
        Trial.due("CLOCK", house.count(9), 18);
        Trial.due("cells", house.count(12), 5 + 5 + 5 * 3991);
        Trial.run(house, 2000);
        Trial.due("ENDED", house.count(4), 2);
        for (int i = 0; i < 5; i++) {
            Trial.due("r[" + i + "]", house.cell(i), 40 * i + 6);
        }
    }

    /** Values that look like places of cells are none: nothing is freed with a VAL, a FORMAL or an abbreviation. */
    private static void valuesAreNoPlaces() {
        for (int big : new int[] {32767, 32768, 65536, 98304, 131072, Integer.MAX_VALUE, Integer.MIN_VALUE}) {
            String e = big == Integer.MIN_VALUE ? "MOSTNEG INT" : "" + big;
            MeetingHouse house = Trial.begun(1, "INT a:", "[3] INT v:", "[2] INT w:",
                    "PROC p(VAL INT n, [] INT x, INT y)", "  SKIP", ":",
                    "SEQ", "  a, v, w := " + e + ", [1, 2, 3], [4, 5]", "  SEQ", "    VAL INT b IS a:", "    SKIP",
                            "  SEQ", "    [] INT x IS v:",
                    "    INT y IS w[1]:", "    SKIP", "  p(a, v, w[0])", "  SEQ", "    INT fresh:", "    fresh := 9",
                            "  STOP");
            Trial.run(house, 2000);
            Trial.due("cells with " + e, house.count(12), 6);
            int[] due = {big, 1, 2, 3, 4, 5};
            for (int i = 0; i < due.length; i++) {
                Trial.due("cell " + i + " with " + e, house.cell(i), due[i]);
            }
        }
    }

    private static void nothingIsFreedTwice() {
        MeetingHouse house = Trial.begun(1, "[2] INT r:", "PROC p([] INT a, VAL [] INT b)", "  [2] INT c:", "  SEQ",
                "    c := b", "    a := c",
                ":", "INT FUNCTION f(VAL [] INT a)", "  VAL [] INT b IS a:", "  VALOF", "    [3] INT c:",
                "    c[2] := b[1]", "    RESULT b[0] + b[1]", ":", "SEQ i = 0 FOR 50", "  SEQ", "    p(r, [i, 1])",
                        "    r[1] := f(r) + f([i, i])",
                "    [2] INT s:", "    p(s, r)", "    PAR", "      INT x:", "      x := 1", "      [2] BYTE y:",
                        "      y := \"ab\"");
        for (int i = 0; i < 40; i++) {
            Trial.run(house, 25);
            int taken = house.count(12);
            Trial.due("cells in their bounds", taken == 0 || taken >= 2 && taken <= 20, true);
        }
        Trial.run(house, 2000);
        Trial.due("ENDED", house.count(4), 2);
        Trial.due("r[0]", house.cell(0), 49);
        Trial.due("r[1]", house.cell(1), 49 + 1 + 98);
    }

    /** "VALs and FORMALs with VAL that are arrays are made anew as they are worked out". */
    private static void copies() {
        MeetingHouse house = Trial.ran(1, "[9] INT r:", "[3] INT v:", "PROC p([] INT to, VAL [] INT from)", "  SEQ",
                "    v[0] := 99",
                "    SEQ i = 0 FOR SIZE from", "      to[i] := from[i]", ":", "[3] INT a, b, c:", "SEQ",
                        "  v := [10, 20, 30]", "  SEQ",
                "    VAL [] INT w IS v:", "    SEQ", "      v[1] := 77", "      r[0], r[1], r[2] := w[0], w[1], w[2]",
                        "  p(a, v)",
                "  r[3], r[4], r[5] := a[0], a[1], a[2]", "  p(b, [v[2], v[1], v[0]])",
                        "  r[6], r[7], r[8] := b[0], b[1], b[2]");
        int[] due = {10, 20, 30, 10, 77, 30, 30, 77, 99};
        for (int i = 0; i < due.length; i++) {
            Trial.due("r[" + i + "]", house.cell(i), due[i]);
        }
    }

    /** Many branches that take and free in turn, one above the other: what one holds moves together with its values. */
    private static void leapfrog() {
        for (int seed = 1; seed <= 6; seed++) {
            MeetingHouse house = Trial.begun(seed, "[12] INT good:", "[12] CHAN OF INT c:", "INT all:", "PAR",
                    "  PAR n = 0 FOR 12",
                    "    SEQ i = 0 FOR 14", "      [90] INT a:", "      CHAN OF INT d, e:", "      INT x:",
                            "      [70] INT b:", "      SEQ",
                    "        a[0], a[89], b[0], b[69], x := n, i, n * i, n + i, 5", "        SKIP", "        PAR",
                            "          e ! a[89] + b[0]",
                    "          SEQ", "            [20 + 13] INT f:", "            SEQ", "              f[32] := n",
                            "              e ? x",
                    "              x := x - f[32]", "        c[n] ! 0", "        IF",
                            "          (a[0] = n) AND (a[89] = i) AND (b[69] = (n + i))",
                    "            IF", "              (x = ((i + (n * i)) - n)) AND (b[0] = (n * i)) AND (a[1] = 0)",
                            "                good[n] := good[n] + 1",
                    "              TRUE", "                SKIP", "          TRUE", "            SKIP",
                            "  SEQ i = 0 FOR 168", "    INT y:", "    ALT j = 0 FOR 12",
                    "      c[j] ? y", "        all := all + 1");
            for (int i = 0; i < 6; i++) {
                Trial.run(house, 2000);
            }
            Trial.due("ENDED", house.count(4), 2);
            for (int n = 0; n < 12; n++) {
                Trial.due("good[" + n + "]", house.cell(n), 14);
            }
            Trial.due("all", house.cell(12), 168);
        }
    }

    /** The same without any cells of the program itself: the lowest ones are freed, too. */
    private static void nothingBelow() {
        for (int seed = 1; seed <= 6; seed++) {
            MeetingHouse house = Trial.begun(seed, "PAR n = 0 FOR 20", "  SEQ i = 0 FOR 14", "    [90] INT a:",
                    "    INT x:", "    [70] INT b:", "    SEQ",
                    "      a[0], a[89], b[0], b[69], x := n, i, n * i, n + i, 5", "      SKIP", "      SKIP", "      IF",
                    "        (a[0] = n) AND (a[89] = i) AND (b[0] = (n * i)) AND (b[69] = (n + i)) AND (x = 5) AND (a[1] = 0) AND (b[1] = 0)",
                    "          SKIP");
            Trial.run(house, 2000);
            Trial.due("goes on", house.count(4) == 1 || house.count(4) == 2, true);
            Trial.run(house, 2000);
            Trial.due("none is STOPPED", house.count(13), 0);
            Trial.due("ENDED", house.count(4), 2);
            Trial.due("STEPS", house.count(5), 1 + 20 * (15 + 14 * 5));
        }
    }
}
