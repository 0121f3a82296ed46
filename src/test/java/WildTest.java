import java.util.Random;

/** Wild texts and calls: nothing is thrown but what the document names, and counts stay in their bounds. */
public final class WildTest {
    private static final String[] TEXTS = {
        Trial.lines("PROTOCOL p", "  CASE", "    a", "    b; INT; [2] BYTE", ":", "CHAN OF p c:", "INT x:", "[2] BYTE v:",
                "PAR", "  SEQ i = 0 FOR 3", "    c ! b; i; \"ab\"", "  SEQ i = 0 FOR 3", "    ALT", "      c ? CASE",
                "        a", "          SKIP", "        b; x; v", "          screen ! v[x]"),
        Trial.lines("[4] INT v:", "[4] CHAN OF INT c, d:", "TIMER t:", "PROC relay(CHAN OF INT a, b, VAL INT n, INT s)",
                "  SEQ i = 0 FOR n", "    SEQ", "      a ? s", "      t ? AFTER s + 10", "      b ! s + 1", ":", "PAR",
                "  SEQ i = 0 FOR 4", "    c[i] ! i", "  PAR i = 0 FOR 4", "    relay(c[i], d[i], 1, v[i])",
                "  WHILE TRUE", "    INT y:", "    PRI ALT", "      d[3] ? y", "        SKIP", "      d[1] ? y",
                "        STOP", "      keyboard ? y", "        SKIP"),
        Trial.lines("INT FUNCTION fac(VAL INT n)", "  INT r:", "  VALOF", "    SEQ", "      r := 1",
                "      SEQ i = 1 FOR n", "        r := r * i", "    RESULT r", ":", "INT x:", "SEQ i = 0 FOR 20",
                        "  CASE i",
                "    3, 4", "      x := fac(i)", "    ELSE", "      IF", "        (i \\ 2) = 0", "          x := x + i",
                "        TRUE", "          INT y IS x:", "          VAL [] INT w IS [x, y, 7]:",
                        "          y := w[i \\ 3]"),
    };
    private static final String[] PIECES = {"SEQ", "PAR", "ALT", "IF", "INT", "[", "]", "(", ")", ":=", "?", "!", ":",
            ",",
        ";", "x", "c", "v[0]", "0", "1", "200", "SKIP", "STOP", "VAL", "IS", "PROC", "i = 0 FOR 3", "\n", "  ", "'a'",
                "\"b\""};

    public static void main(String[] args) {
        Random random = new Random(20261116);
        int programs = 0;
        for (int i = 0; i < 4000; i++) {
            StringBuilder text = new StringBuilder(TEXTS[random.nextInt(TEXTS.length)]);
            for (int change = random.nextInt(3); change > 0; change--) {
                spoil(text, random);
            }
            programs += use(text.toString(), random) ? 1 : 0;
        }
        Trial.due("some of them are programs", programs > 1000, true);
        Trial.finish("WildTest");
    }

    private static void spoil(StringBuilder text, Random random) {
        int at = random.nextInt(text.length());
        switch (random.nextInt(4)) {
            case 0:
                text.setCharAt(at, (char) random.nextInt(256));
                break;
            case 1:
                text.delete(at, Math.min(text.length(), at + 1 + random.nextInt(4)));
                break;
            case 2:
                text.insert(at, PIECES[random.nextInt(PIECES.length)]);
                break;
            default:
                int end = text.indexOf("\n", at);
                text.insert(end < 0 ? at : end, "\n  " + PIECES[random.nextInt(PIECES.length)]);
                break;
        }
    }

    private static boolean use(String text, Random random) {
        try {
            MeetingHouse house = Trial.house(text);
            int fault = house.read();
            Trial.due("a fault of 1 .. 15 with its line", fault == 0 || fault % 16 > 0 && fault / 16 > 0, true);
            if (fault != 0) {
                return false;
            }
            house.begin(random.nextInt());
            for (int i = 0; i < 10; i++) {
                ask(house, random);
            }
            return true;
        } catch (RuntimeException e) {
            Trial.due(e + " thrown for\n" + text, 1, 0);
            return false;
        }
    }

    private static void ask(MeetingHouse house, Random random) {
        house.run(random.nextInt(200));
        house.key(random.nextInt());
        int processes = house.count(6);
        int taken = house.count(12);
        Trial.due("processes", processes >= 0 && processes <= 80, true);
        Trial.due("cells", taken >= 0 && taken <= 20000, true);
        Trial.due("clashes()", house.clashes(), 0);
        for (int p = -1; p < 12; p++) {
            int state = house.process(p, 0);
            Trial.due("a state", state >= -1 && state <= 7, true);
            Trial.due("FAULT and STOPPED go together", state == 7, house.process(p, 5) >= 0);
            house.process(p, random.nextInt());
        }
        house.cell(random.nextInt());
        house.cell(random.nextInt(20));
        house.output(random.nextInt());
        house.meeting(random.nextInt(70), random.nextInt(9) - 1);
        house.count(random.nextInt());
    }
}
