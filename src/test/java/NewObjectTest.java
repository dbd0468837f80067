/** Promise 1: a new object, and all that is asked of it ahead of any text and any run. */
public final class NewObjectTest {
    public static void main(String[] args) {
        Tester t = new Tester();
        TaintHouse house = new TaintHouse();
        t.due("NONE", TaintHouse.NONE, -1);
        int[] counts = {-1, 7, 0, 0, 0, 0, -1};
        for (int what = -1; what <= 5; what++) {
            t.due("count(" + what + ")", house.count(what), counts[what + 1]);
        }
        int[] parents = {-1, 0, 1, 1, 1, 1, 1};
        for (int c = 0; c < 7; c++) {
            t.due("type(" + c + ", 0)", house.type(c, 0), parents[c]);
            t.due("type(" + c + ", 1)", house.type(c, 1), 0);
            t.due("type(" + c + ", 2)", house.type(c, 2), 0);
            t.due("type(" + c + ", 3)", house.type(c, 3), -1);
        }
        t.due("type(7, 1)", house.type(7, 1), -1);
        t.due("type(-1, 1)", house.type(-1, 1), -1);
        t.due("method(0, 4)", house.method(0, 4), -1);
        t.due("place()", house.place(), -1);
        t.due("run(0)", house.run(0), -10);
        for (int what = -1; what <= 8; what++) {
            t.due("result(" + what + ")", house.result(what), -1);
        }
        t.due("event(0, 0)", house.event(0, 0), -1);
        t.due("object(0, 0)", house.object(0, 0), -1);
        t.due("slot(0, 0, 0)", house.slot(0, 0, 0), -1);
        t.due("stat(0, 0)", house.stat(0, 0), -1);
        t.due("flows(0)", house.flows(0), 0);
        for (int k = 0; k < 16; k++) {
            t.due("policy(" + k + ", 1)", house.policy(k, 1), 0);
            t.due("input(" + k + ", 1)", house.input(k, 1), 0);
        }
        TaintHouse other = new TaintHouse();
        t.due("policy(3, 0) of another object", other.policy(3, 0), 0);
        t.due("input(3, 0) of another object", other.input(3, 0), 0);
        t.finish();
    }
}
