/** Promises 10 and 11: limits 4 to 7, what counts as done, and what stays to be asked. */
public final class LimitsTest {
    private static final Tester T = new Tester();

    public static void main(String[] args) {
        steps();
        frames();
        cells();
        faultCells();
        events();
        T.finish();
    }

    private static void dueCounts(TaintHouse house, int done, int events, int objects, int cells) {
        T.due("result(3)", house.result(3), done);
        T.due("result(4)", house.result(4), events);
        T.due("result(6)", house.result(6), objects);
        T.due("result(7)", house.result(7), cells);
    }

    private static void steps() {
        String forever = "class A { static s int; method f() none { x: gets A s; push 1; add; puts A s; goto x; } }";
        TaintHouse house = T.dueRun(forever, 0, 4, 0, 0);
        dueCounts(house, 20000, 0, 0, 0);
        T.due("stat(0, 0)", house.stat(0, 0), 4000);
        // 3 ahead, 3 a round, then as many as are asked for: 20000 in all are done, the next one isn't.
        String counted = "class A { method f(int) int { x: inc 0 - 1; load 0; ifgt x; # push 1; ret; } }";
        int[] more = {0, 1, 2, 3};
        for (int m : more) {
            StringBuilder extra = new StringBuilder();
            for (int i = 0; i < m; i++) {
                extra.append("inc 0 1; ");
            }
            TaintHouse one = T.house(counted.replace("#", extra.toString()));
            one.argument(0, 6665, 7);
            int done = 3 * 6665 + m + 2;
            T.dueRun(one, counted, 0, 1, 1, 0);
            T.due("result(3)", one.result(3), done);
            one.argument(0, 6666, 7);
            done = 3 * 6666 + m + 2;
            boolean over = done > 20000;
            T.dueRun(one, counted, 0, over ? 4 : 1, over ? 0 : 1, 0);
            T.due("result(3)", one.result(3), Math.min(done, 20000));
        }
        // One that throws counts, too: as the last one it may end the run.
        String thrower = "class A { method f(int) none { x: inc 0 - 1; load 0; ifgt x; # null; throw; } }";
        TaintHouse last = T.house(thrower.replace("# ", ""));
        last.argument(0, 6666, 0);
        T.dueRun(last, thrower, 0, 3, 0, 0);
        T.due("result(3)", last.result(3), 20000);
        TaintHouse late = T.house(thrower.replace("#", "inc 0 1;"));
        late.argument(0, 6666, 0);
        T.dueRun(late, thrower, 0, 4, 0, 0);
        dueCounts(late, 20000, 0, 0, 0);
    }

    private static void frames() {
        String text = "class A { method f(int) int { load 0; sink 0; inc 0 - 1; load 0; ifgt x; push 7; ret; x: load 0; call A f;"
            + " ret; } virtual v() none { load 0; virt A v; ret; } method g() none { new A; virt A v; ret; }"
            + " virtual w() none { null; virt A w; ret; } method h() int { a: call A i; push 1; ret; b: pop; push 2; ret;"
            + " try a b b Any; } method i() none { call A i; ret; } }";
        TaintHouse house = T.house(text);
        house.argument(0, 24, 0);
        T.dueRun(house, text, 0, 1, 7, 0);
        T.due("result(4)", house.result(4), 24);
        house.argument(0, 25, 0);
        T.dueRun(house, text, 0, 5, 0, 0);
        dueCounts(house, 23 * 7 + 6, 24, 0, 0);
        T.due("event(23, 1)", house.event(23, 1), 2);
        T.dueRun(house, text, 2, 5, 0, 0);
        dueCounts(house, 2 + 22 * 2 + 1, 0, 1, 1);
        // A limit isn't thrown: no try catches it.
        T.dueRun(house, text, 4, 5, 0, 0);
        dueCounts(house, 23, 0, 0, 0);
        // null is asked ahead of the limit.
        String deep = "class A { method f(int) none { inc 0 - 1; load 0; ifgt x; null; virt A v; ret; x: load 0; call A f; ret; }"
            + " virtual v() none { ret; } }";
        TaintHouse nulls = T.house(deep);
        nulls.argument(0, 24, 0);
        T.dueRun(nulls, deep, 0, 3, 0, 0);
        T.due("object(0, 0)", nulls.object(0, 0), 2);
        T.due("result(3)", nulls.result(3), 23 * 5 + 5);
    }

    private static void cells() {
        String text = "class A { field a int; field b ref; static s ref; method f(int) none { load 0; ints; puts A s; ret; }"
            + " method g(int) none { load 0; refs; pop; new A; pop; ret; } method h() none { x: new B; pop; goto x; }"
            + " method i(int) none { load 0; ints; pop; new Any; pop; new Any; pop; ret; } }"
            + " class B : A { field c int; field d int; }";
        TaintHouse house = T.house(text);
        house.argument(0, 2999, 0);
        T.dueRun(house, text, 0, 0, 0, 0);
        dueCounts(house, 4, 0, 1, 3000);
        T.due("object(0, 1)", house.object(0, 1), 2999);
        T.due("slot(0, 2998, 0)", house.slot(0, 2998, 0), 0);
        T.due("slot(0, 2999, 0)", house.slot(0, 2999, 0), -1);
        for (int length : new int[] {3000, 3001, 1000000, Integer.MAX_VALUE}) {
            house.argument(0, length, 5);
            T.dueRun(house, text, 0, 6, 0, 0);
            dueCounts(house, 1, 0, 0, 0);
            T.due("stat(0, 0)", house.stat(0, 0), -1);
        }
        house.argument(0, 2996, 0);
        T.dueRun(house, text, 1, 0, 0, 0);
        dueCounts(house, 6, 0, 2, 3000);
        house.argument(0, 2997, 0);
        T.dueRun(house, text, 1, 6, 0, 0);
        dueCounts(house, 3, 0, 1, 2998);
        T.dueRun(house, text, 2, 6, 0, 0);
        dueCounts(house, 1800, 0, 600, 3000);
        T.due("object(599, 0)", house.object(599, 0), 8);
        T.due("object(600, 0)", house.object(600, 0), -1);
        T.due("slot(599, 1, 0)", house.slot(599, 1, 0), -1);
        T.due("slot(599, 3, 0)", house.slot(599, 3, 0), 0);
        house.argument(0, 2997, 0);
        T.dueRun(house, text, 3, 0, 0, 0);
        dueCounts(house, 8, 0, 3, 3000);
        house.argument(0, 2998, 0);
        T.dueRun(house, text, 3, 6, 0, 0);
        dueCounts(house, 5, 0, 2, 3000);
    }

    private static void faultCells() {
        String text = "class A { method f(int) none { load 0; ints; pop; null; throw; }"
            + " method g(int) int { load 0; ints; pop; a: push 1; push 0; div; ret; b: pop; push 3; ret; try a b b Any; }"
            + " method h() none { a: null; length; pop; ret; b: pop; goto a; try a b b Any; } }";
        TaintHouse house = T.house(text);
        house.argument(0, 2998, 0);
        T.dueRun(house, text, 0, 3, 1, 0);
        dueCounts(house, 5, 0, 2, 3000);
        T.dueRun(house, text, 1, 1, 3, 0);
        house.argument(0, 2999, 3);
        T.dueRun(house, text, 0, 6, 0, 0);
        dueCounts(house, 4, 0, 1, 3000);
        T.dueRun(house, text, 1, 6, 0, 0);
        dueCounts(house, 5, 0, 1, 3000);
        T.dueRun(house, text, 2, 6, 0, 0);
        dueCounts(house, 3000 * 4 + 1, 0, 3000, 3000);
        T.due("object(2999, 0)", house.object(2999, 0), 2);
    }

    private static void events() {
        String text = "class A { method f(int) none { x: load 0; sink 5; inc 0 - 1; load 0; ifgt x; ret; } }";
        TaintHouse house = T.house(text);
        house.policy(5, 2);
        house.argument(0, 500, 2);
        T.dueRun(house, text, 0, 0, 0, 0);
        dueCounts(house, 500 * 5 + 1, 500, 0, 0);
        T.due("result(5)", house.result(5), 500);
        T.due("event(499, 1)", house.event(499, 1), 1);
        house.argument(0, 501, 4);
        T.dueRun(house, text, 0, 7, 0, 0);
        dueCounts(house, 500 * 5 + 1, 500, 0, 0);
        T.due("result(5)", house.result(5), 0);
        T.due("event(0, 1)", house.event(0, 1), 501);
        T.due("event(499, 1)", house.event(499, 1), 2);
        T.due("event(499, 2)", house.event(499, 2), 4);
        T.due("event(500, 1)", house.event(500, 1), -1);
    }
}
