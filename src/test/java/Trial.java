/** What the tests have in common: texts are fed and read, and answers are compared with those that are due. */
final class Trial {
    private static int wrong = 0;
    private static int looked = 0;

    private Trial() {
    }

    static void due(String what, long got, long want) {
        looked++;
        if (got != want) {
            wrong++;
            System.out.println(what + " answered " + got + ", due is " + want);
        }
    }

    static void due(String what, boolean got, boolean want) {
        due(what, got ? 1 : 0, want ? 1 : 0);
    }

    /** Lines of a text, each with its line's end. */
    static String lines(String... lines) {
        StringBuilder all = new StringBuilder();
        for (String line : lines) {
            all.append(line).append('\n');
        }
        return all.toString();
    }

    /** Lines, and those behind them. */
    static String[] with(String[] ahead, String... behind) {
        String[] all = java.util.Arrays.copyOf(ahead, ahead.length + behind.length);
        System.arraycopy(behind, 0, all, ahead.length, behind.length);
        return all;
    }

    /** Feeds a text, whatever its length is. */
    static void feed(MeetingHouse house, String text) {
        int n = text.length();
        for (int at = 0; at < n; at += 20) {
            int[] five = new int[5];
            for (int i = 0; i < 20; i++) {
                int b = at + i < n ? text.charAt(at + i) & 255 : 0;
                five[i / 4] = five[i / 4] << 8 | b;
            }
            house.feed(five[0], five[1], five[2], five[3], five[4]);
        }
        house.back((20 - n % 20) % 20);
    }

    static MeetingHouse house(String text) {
        MeetingHouse house = new MeetingHouse();
        feed(house, text);
        return house;
    }

    /** Reads a text in a new object; the answer has to be a fault (0: none) of a line. */
    static void reads(int fault, int line, String... lines) {
        String text = lines(lines);
        int got = house(text).read();
        due("read of\n" + text, got, fault == 0 ? 0 : fault + 16L * line);
    }

    /** A run of a text that is to be read without a fault. */
    static MeetingHouse begun(int seed, String... lines) {
        String text = lines(lines);
        MeetingHouse house = house(text);
        due("read of\n" + text, house.read(), 0);
        try {
            house.begin(seed);
        } catch (IllegalStateException e) {
            due("begin of\n" + text, 1, 0);
        }
        return house;
    }

    static MeetingHouse ran(int seed, String... lines) {
        MeetingHouse house = begun(seed, lines);
        run(house, 2000);
        return house;
    }

    /** run(n); -2 for IllegalArgumentException, -3 for IllegalStateException. */
    static int run(MeetingHouse house, int n) {
        try {
            return house.run(n);
        } catch (IllegalArgumentException e) {
            return -2;
        } catch (IllegalStateException e) {
            return -3;
        }
    }

    /** The fault of process p of a run, and its line: 100 * line + fault, or NONE. */
    static int stopped(MeetingHouse house, int p) {
        int fault = house.process(p, 5);
        return fault < 0 ? fault : 100 * house.process(p, 1) + fault;
    }

    static String shown(MeetingHouse house) {
        StringBuilder all = new StringBuilder();
        for (int i = 0; i < house.count(10); i++) {
            all.append((char) house.output(i));
        }
        return all.toString();
    }

    static void dueText(String what, String got, String want) {
        looked++;
        if (!got.equals(want)) {
            wrong++;
            System.out.println(what + " answered \"" + got + "\", due is \"" + want + "\"");
        }
    }

    static void finish(String name) {
        System.out.println(name + ": " + (looked - wrong) + " of " + looked + " answers as due");
        if (wrong > 0) {
            System.exit(1);
        }
    }
}
