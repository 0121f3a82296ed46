/** Promises 2 and 3: bytes come behind the tape, and go. */
public final class FeedBackTest {
    public static void main(String[] args) {
        order();
        bounds();
        Trial.finish("FeedBackTest");
    }

    private static void order() {
        MeetingHouse house = new MeetingHouse();
        // "SKIP" and a line's end, the highest byte of each int first; what stands behind goes again.
        Trial.due("feed", house.feed(0x534B4950, 0x0A41FF80, 0, -1, 7), 20);
        Trial.due("count(3)", house.count(3), 20);
        Trial.due("back(15)", house.back(15), 5);
        Trial.due("count(3)", house.count(3), 5);
        Trial.due("read()", house.read(), 0);
        Trial.due("count(3) behind read()", house.count(3), 0);
        Trial.due("count(0)", house.count(0), 1);
        Trial.due("feed", house.feed(0x5345510A, 0x2020534B, 0x49500A20, 0x20535445, 0x500A0000), 20);
        Trial.due("back(2)", house.back(2), 18);
        // Line 3 is "STEP": no action begins so with a line's end behind it.
        Trial.due("read()", house.read(), 16 * 3 + 2);
    }

    private static void bounds() {
        MeetingHouse house = new MeetingHouse();
        Trial.due("back(-1)", house.back(-1), -1);
        Trial.due("back(MIN)", house.back(Integer.MIN_VALUE), -1);
        Trial.due("back(MAX)", house.back(Integer.MAX_VALUE), -1);
        for (int n = 20; n <= 6000; n += 20) {
            if (house.feed(0x0A0A0A0A, 0x0A0A0A0A, 0x0A0A0A0A, 0x0A0A0A0A, 0x0A0A0A0A) != n) {
                Trial.due("feed of " + n, 0, 1);
            }
        }
        Trial.due("one feed too much", house.feed(0, 0, 0, 0, 0), -1);
        Trial.due("count(3)", house.count(3), 6000);
        Trial.due("back(6001)", house.back(6001), -1);
        Trial.due("count(3)", house.count(3), 6000);
        Trial.due("back(19)", house.back(19), 5981);
        Trial.due("feed that is one too much", house.feed(0, 0, 0, 0, 0), -1);
        Trial.due("count(3)", house.count(3), 5981);
        Trial.due("back(1)", house.back(1), 5980);
        Trial.due("feed", house.feed(0x0A0A0A0A, 0x0A0A0A0A, 0x0A0A0A0A, 0x0A0A0A0A, 0x0A0A0A0A), 6000);
        Trial.due("read()", house.read(), 16 * 6001 + 2);
        Trial.due("count(3)", house.count(3), 0);
        Trial.due("back(0)", house.back(0), 0);
    }
}
