/** Promises 11 to 18: what is told of runs, classes and methods, and what a new text forgets. */
public final class LookTest {
    private static final Tester T = new Tester();
    private static final String TEXT = "class A { field x int; field r ref; static s int; static t ref;"
        + " method f(int, ref) none { push 5; mark 3; puts A s; new B; puts A t; gets A t; push 6; mark 4; put A x; gets A t;"
        + " gets A t; put B q; push 2; refs; store 2; load 2; push 1; gets A t; rput; push 3; mark 9; ints; pop; ret; }"
        + " virtual v() ref { load 0; ret; } }"
        + " class B : A { field y int; field q ref; static u int; virtual v() ref { null; ret; } }"
        + " class C : SizeFault { virtual w(int, int, int, int, int, ref) int { load 1; ret; } method g(ref) int { push 1; ret; } }";

    public static void main(String[] args) {
        TaintHouse house = T.house(TEXT);
        classes(house);
        methods(house);
        counts(house);
        run(house);
        forgetting(house);
        T.finish();
    }

    private static void classes(TaintHouse house) {
        int[][] want = {{-1, 0, 0}, {0, 0, 0}, {1, 0, 0}, {1, 0, 0}, {1, 0, 0}, {1, 0, 0}, {1, 0, 0}, {0, 2, 2}, {7, 4, 1},
            {4, 0, 2}};
        for (int c = 0; c < want.length; c++) {
            for (int what = 0; what < 3; what++) {
                T.due("type(" + c + ", " + what + ")", house.type(c, what), want[c][what]);
            }
            T.due("type(" + c + ", 3)", house.type(c, 3), -1);
            T.due("type(" + c + ", -1)", house.type(c, -1), -1);
        }
        for (int what = -1; what < 4; what++) {
            T.due("type(10, " + what + ")", house.type(10, what), -1);
            T.due("type(-1, " + what + ")", house.type(-1, what), -1);
        }
    }

    private static void methods(TaintHouse house) {
        int[][] want = {{7, 2, 0, 0, 24, 3}, {7, 0, 2, 1, 2, 1}, {8, 0, 2, 1, 2, 1}, {9, 6, 1, 1, 2, 1}, {9, 1, 1, 0, 2, 1}};
        for (int m = 0; m < want.length; m++) {
            for (int what = 0; what < 6; what++) {
                T.due("method(" + m + ", " + what + ")", house.method(m, what), want[m][what]);
            }
            T.due("method(" + m + ", 6)", house.method(m, 6), -1);
            T.due("method(" + m + ", -1)", house.method(m, -1), -1);
        }
        for (int what = -1; what < 7; what++) {
            T.due("method(5, " + what + ")", house.method(5, what), -1);
            T.due("method(-1, " + what + ")", house.method(-1, what), -1);
        }
    }

    private static void counts(TaintHouse house) {
        house.flows(6);
        house.feed(0, 0, 0, 0, 0);
        house.end(7);
        int[] want = {-1, 10, 5, 3, 6, 7, -1};
        for (int what = -1; what < 6; what++) {
            T.due("count(" + what + ")", house.count(what), want[what + 1]);
        }
        house.end(0);
        house.flows(0);
    }

    private static void run(TaintHouse house) {
        T.due("stat(0, 0) ahead of a run", house.stat(0, 0), -1);
        T.due("run(0)", house.run(0), 0);
        int[] results = {0, 0, 0, 24, 0, 0, 3, 1 + 4 + 1 + 2 + 1 + 3};
        for (int what = 0; what < 8; what++) {
            T.due("result(" + what + ")", house.result(what), results[what]);
        }
        int[][] objects = {{8, 4, 0}, {-3, 2, 0}, {-2, 3, 9}};
        int[][][] slots = {{{6, 4}, {-1, 0}, {0, 0}, {0, 0}}, {{-1, 0}, {0, 0}}, {{0, 0}, {0, 0}, {0, 0}}};
        for (int i = 0; i < 3; i++) {
            for (int what = 0; what < 3; what++) {
                T.due("object(" + i + ", " + what + ")", house.object(i, what), objects[i][what]);
            }
            T.due("object(" + i + ", 3)", house.object(i, 3), -1);
            T.due("object(" + i + ", -1)", house.object(i, -1), -1);
            for (int k = 0; k < slots[i].length; k++) {
                T.due("slot(" + i + ", " + k + ", 0)", house.slot(i, k, 0), slots[i][k][0]);
                T.due("slot(" + i + ", " + k + ", 1)", house.slot(i, k, 1), slots[i][k][1]);
                T.due("slot(" + i + ", " + k + ", 2)", house.slot(i, k, 2), -1);
                T.due("slot(" + i + ", " + k + ", -1)", house.slot(i, k, -1), -1);
            }
            T.due("slot(" + i + ", -1, 1)", house.slot(i, -1, 1), -1);
            T.due("slot(" + i + ", end, 1)", house.slot(i, slots[i].length, 1), -1);
        }
        T.due("object(3, 0)", house.object(3, 0), -1);
        T.due("object(-1, 0)", house.object(-1, 0), -1);
        T.due("slot(3, 0, 1)", house.slot(3, 0, 1), -1);
        T.due("slot(-1, 0, 1)", house.slot(-1, 0, 1), -1);
        int[][] statics = {{5, 3}, {0, 0}, {0, 0}};
        for (int k = 0; k < 3; k++) {
            T.due("stat(" + k + ", 0)", house.stat(k, 0), statics[k][0]);
            T.due("stat(" + k + ", 1)", house.stat(k, 1), statics[k][1]);
            T.due("stat(" + k + ", 2)", house.stat(k, 2), -1);
            T.due("stat(" + k + ", -1)", house.stat(k, -1), -1);
        }
        T.due("stat(3, 1)", house.stat(3, 1), -1);
        T.due("stat(-1, 1)", house.stat(-1, 1), -1);
        // Another run begins with statics 0 and null, no objects, no events.
        T.due("run(4)", house.run(4), 1);
        T.due("stat(0, 0)", house.stat(0, 0), 0);
        T.due("stat(0, 1)", house.stat(0, 1), 0);
        T.due("stat(1, 0)", house.stat(1, 0), -1);
        T.due("object(0, 0)", house.object(0, 0), -1);
        T.due("result(6)", house.result(6), 0);
    }

    private static void forgetting(TaintHouse house) {
        T.due("run(0)", house.run(0), 0);
        T.due("text() that is wrong", Tester.read(house, "x"), -1);
        T.due("result(6)", house.result(6), 3);
        T.due("object(0, 0)", house.object(0, 0), 8);
        T.due("stat(0, 0)", house.stat(0, 0), 5);
        T.due("text() that is right", Tester.read(house, "class X { static s int; method f() none { push 1; sink 1; ret; } }"), 1);
        T.due("count(0)", house.count(0), 8);
        T.due("count(1)", house.count(1), 1);
        T.due("count(2)", house.count(2), 1);
        T.due("type(7, 1)", house.type(7, 1), 0);
        T.due("type(8, 0)", house.type(8, 0), -1);
        T.due("method(1, 0)", house.method(1, 0), -1);
        for (int what = 0; what < 8; what++) {
            T.due("result(" + what + ")", house.result(what), -1);
        }
        T.due("object(0, 0)", house.object(0, 0), -1);
        T.due("slot(0, 0, 1)", house.slot(0, 0, 1), -1);
        T.due("stat(0, 1)", house.stat(0, 1), -1);
        T.due("event(0, 0)", house.event(0, 0), -1);
        T.due("run(0)", house.run(0), 0);
        T.due("event(0, 0)", house.event(0, 0), 1);
        T.due("stat(0, 0)", house.stat(0, 0), 0);
        Tester.read(house, "class Y { }");
        T.due("event(0, 0)", house.event(0, 0), -1);
        T.due("run(0)", house.run(0), -10);
    }
}
