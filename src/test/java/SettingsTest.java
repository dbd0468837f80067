/** Promises 6 to 9: flows, policies, inputs and arguments, what they were, and how long they last. */
public final class SettingsTest {
    private static final Tester T = new Tester();
    private static final String TEXT = "class A { method f(int, ref, int) int { load 0; sink 0; load 1; is Any;"
        + " sink 1; load 2; sink 2; source 5; sink 3; load 0; ret; }"
        + " virtual v(int, ref, int, int, int, int) int { load 0; is Any; sink 0; load 1; sink 1; load 2; is Any; sink 2;"
        + " load 3; sink 3; load 6; ret; } }";

    public static void main(String[] args) {
        flows();
        policies();
        inputs();
        arguments();
        lasting();
        T.finish();
    }

    private static void flows() {
        TaintHouse house = new TaintHouse();
        int[] given = {1, 2, 4, 7, 8, 15, -1, 0, 6};
        int was = 0;
        for (int v : given) {
            T.due("flows(" + v + ")", house.flows(v), was);
            was = v & 7;
            T.due("count(3)", house.count(3), was);
        }
    }

    private static void policies() {
        TaintHouse house = new TaintHouse();
        T.due("policy(-1, 5)", house.policy(-1, 5), -15);
        T.due("policy(16, 5)", house.policy(16, 5), -15);
        T.due("policy(15, 5)", house.policy(15, 5), 0);
        T.due("policy(0, -1)", house.policy(0, -1), 0);
        T.due("policy(0, 65536)", house.policy(0, 65536), 65535);
        T.due("policy(0, 0x12345)", house.policy(0, 0x12345), 0);
        T.due("policy(0, 0)", house.policy(0, 0), 0x2345);
        T.due("policy(15, 0)", house.policy(15, 0), 5);
    }

    private static void inputs() {
        TaintHouse house = new TaintHouse();
        T.due("input(-1, 5)", house.input(-1, 5), -1);
        T.due("input(16, 5)", house.input(16, 5), -1);
        T.due("input(15, 5)", house.input(15, 5), 0);
        T.due("input(0, least)", house.input(0, Integer.MIN_VALUE), 0);
        T.due("input(0, -1)", house.input(0, -1), Integer.MIN_VALUE);
        T.due("input(0, 3)", house.input(0, 3), -1);
        T.due("input(15, 0)", house.input(15, 0), 5);
    }

    private static void arguments() {
        TaintHouse house = T.house(TEXT);
        T.due("argument(-1, 1, 1)", house.argument(-1, 1, 1), -15);
        T.due("argument(7, 1, 1)", house.argument(7, 1, 1), -15);
        for (int i = 0; i < 7; i++) {
            T.due("argument(" + i + ")", house.argument(i, -10 - i, 0x10000 | 1 << i), 1);
        }
        house.input(5, 77);
        T.due("run(0)", house.run(0), 1);
        T.due("result(1)", house.result(1), -10);
        T.due("result(2)", house.result(2), 1);
        events(house, new int[] {-10, 0, -12, 77}, new int[] {1, 2, 4, 32});
        T.due("run(1)", house.run(1), 1);
        T.due("result(1)", house.result(1), -16);
        T.due("result(2)", house.result(2), 64);
        events(house, new int[] {0, -11, 0, -13}, new int[] {1, 2, 4, 8});
        T.due("argument(0, 3, -1)", house.argument(0, 3, -1), 1);
        house.run(0);
        T.due("marks of argument 0", house.result(2), 65535);
    }

    private static void events(TaintHouse house, int[] values, int[] marks) {
        for (int i = 0; i < values.length; i++) {
            T.due("event(" + i + ", 0)", house.event(i, 0), i);
            T.due("event(" + i + ", 1)", house.event(i, 1), values[i]);
            T.due("event(" + i + ", 2)", house.event(i, 2), marks[i]);
        }
    }

    /** A text that is right leaves all but the arguments; one that isn't leaves these, too. */
    private static void lasting() {
        TaintHouse house = T.house(TEXT);
        house.flows(5);
        house.policy(3, 32);
        house.input(5, 9);
        house.argument(0, 4, 8);
        T.due("text() of a wrong text", Tester.read(house, "class"), -6);
        T.due("text() of a text with a fault", Tester.read(house, "class A { } class A { }"), -5001);
        T.due("run(0)", house.run(0), 1);
        T.due("result(1)", house.result(1), 4);
        T.due("result(2)", house.result(2), 8);
        T.due("result(5)", house.result(5), 1);
        T.due("text()", Tester.read(house, TEXT), 2);
        T.due("run(0)", house.run(0), 1);
        T.due("result(1)", house.result(1), 0);
        T.due("result(2)", house.result(2), 0);
        T.due("event(3, 1)", house.event(3, 1), 9);
        T.due("event(3, 3)", house.event(3, 3), 1);
        T.due("flows(0)", house.flows(0), 5);
        T.due("policy(3, 0)", house.policy(3, 0), 32);
        T.due("input(5, 0)", house.input(5, 0), 9);
    }
}
