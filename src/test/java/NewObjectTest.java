/** Promise 1: a new object has an empty tape and no program. */
public final class NewObjectTest {
    public static void main(String[] args) {
        MeetingHouse house = new MeetingHouse();
        for (int what = 0; what <= 13; what++) {
            Trial.due("count(" + what + ")", house.count(what), 0);
        }
        Trial.due("NONE", MeetingHouse.NONE, -1);
        Trial.due("back(1)", house.back(1), -1);
        Trial.due("back(0)", house.back(0), 0);
        Trial.due("process(0, 0)", house.process(0, 0), -1);
        Trial.due("output(0)", house.output(0), -1);
        Trial.due("meeting(0, 0)", house.meeting(0, 0), -1);
        Trial.due("cell(0)", house.cell(0), 0);
        Trial.due("clashes()", house.clashes(), 0);
        Trial.due("key(1)", house.key(1), false);
        Trial.due("run(0)", Trial.run(house, 0), -3);
        Trial.due("run(-1)", Trial.run(house, -1), -2);
        boolean thrown = false;
        try {
            house.begin(1);
        } catch (IllegalStateException e) {
            thrown = true;
        }
        Trial.due("begin(1) throws", thrown, true);
        Trial.due("read()", house.read(), 18);
        Trial.finish("NewObjectTest");
    }
}
