/** Promises 6 and 10 to 15: where marks go, with and without flows. */
public final class MarksTest {
    private static final Tester T = new Tester();

    public static void main(String[] args) {
        sources();
        operands();
        fieldsAndElements();
        flows();
        events();
        calls();
        jumpsCarryNone();
        T.finish();
    }

    private static void sources() {
        for (int k = 0; k < 16; k++) {
            T.dueInt("source " + k + "; ret;", k + 1, 1 << k);
        }
        T.dueInt("source 3; mark 65535; ret;", 4, 65535);
        T.dueInt("source 3; mark 5; ret;", 4, 13);
        T.dueInt("source 3; mark 0; ret;", 4, 8);
        T.dueInt("source 3; mark 5; clean 9; ret;", 4, 4);
        T.dueInt("source 3; mark 5; clean 65535; ret;", 4, 0);
        T.dueInt("source 3; clean 0; ret;", 4, 8);
        T.dueInt("push 3; ret;", 3, 0);
    }

    private static void operands() {
        for (String word : "add sub mul div rem and or xor shl shr ushr".split(" ")) {
            TaintHouse house = T.house("class A { method f() int { source 1; source 2; " + word + "; ret; } }");
            house.input(2, 1);
            T.due("run(0)", house.run(0), 1);
            T.due("marks of " + word, house.result(2), 6);
        }
        T.dueInt("source 1; push 0; mul; ret;", 0, 2);
        T.dueInt("push 0; source 1; and; ret;", 0, 2);
        T.dueInt("source 1; neg; ret;", -2, 2);
        T.dueInt("source 1; store 0; load 0; ret;", 2, 2);
        T.dueInt("source 1; store 0; inc 0 5; load 0; ret;", 7, 2);
        T.dueInt("source 1; dup; pop; ret;", 2, 2);
        T.dueInt("source 1; dup; mark 4; pop; ret;", 2, 2);
        T.dueInt("source 1; source 2; swap; ret;", 2, 2);
        T.dueInt("source 1; source 2; swap; pop; ret;", 3, 4);
        T.dueInt("source 1; store 0; push 5; store 0; load 0; ret;", 5, 0);
    }

    /** Without flows. */
    private static void fieldsAndElements() {
        T.dueInt("new A; dup; source 1; put A x; get A x; ret;", 2, 2);
        T.dueInt("new A; store 0; load 0; source 1; put A x; load 0; push 3; put A x; load 0; get A x; ret;", 3, 0);
        T.dueInt("source 1; puts A s; gets A s; ret;", 2, 2);
        T.dueInt("source 1; puts A s; push 3; puts A s; gets A s; ret;", 3, 0);
        T.dueInt("source 1; ints; length; ret;", 2, 2);
        T.dueInt("source 1; refs; length; ret;", 2, 2);
        T.dueInt("source 1; ints; push 0; iget; ret;", 0, 0);
        T.dueInt("source 1; ints; is Any; ret;", 1, 0);
        T.dueInt("push 9; ints; dup; source 1; source 2; iput; push 2; iget; ret;", 3, 4);
        T.dueInt("push 9; ints; source 1; iget; ret;", 0, 0);
        TaintHouse house = T.dueInt("source 1; ints; dup; push 1; source 3; iput; pop; source 4; refs; pop; new A; pop;"
            + " source 2; puts A s; push 1; ret;", 1, 0);
        T.due("object(0, 2)", house.object(0, 2), 2);
        T.due("object(1, 2)", house.object(1, 2), 16);
        T.due("object(2, 2)", house.object(2, 2), 0);
        T.due("slot(0, 0, 1)", house.slot(0, 0, 1), 0);
        T.due("slot(0, 1, 0)", house.slot(0, 1, 0), 4);
        T.due("slot(0, 1, 1)", house.slot(0, 1, 1), 8);
        T.due("stat(0, 0)", house.stat(0, 0), 3);
        T.due("stat(0, 1)", house.stat(0, 1), 4);
        // The second run has none of what the first one left.
        house.run(0);
        T.due("result(6)", house.result(6), 3);
        T.due("slot(0, 0, 1)", house.slot(0, 0, 1), 0);
    }

    /** The marks that are due: those told first always, then the index's, the read and the written ref's. */
    private static void flows() {
        flowsOf("load 0; get A x; ret;", 4, 0, 1, 0);
        flowsOf("load 0; get A r; is Any; ret;", 0, 0, 1, 0);
        flowsOf("load 1; source 4; iget; ret;", 0, 16, 2, 0);
        flowsOf("load 2; source 4; rget; is Any; ret;", 0, 16, 8, 0);
        flowsOf("load 1; length; ret;", 32, 0, 2, 0);
        flowsOf("load 0; source 6; put A x; load 3; get A x; ret;", 64, 0, 0, 1);
        flowsOf("load 0; null; put A r; load 3; get A r; is Any; ret;", 0, 0, 0, 1);
        flowsOf("load 1; source 4; source 6; iput; load 4; push 1; iget; ret;", 64, 16, 0, 2);
        flowsOf("load 2; source 4; null; rput; load 5; push 1; rget; is Any; ret;", 0, 16, 0, 8);
        flowsOf("load 0; is A; ret;", 0, 1, 0, 0);
        flowsOf("load 0; as A; is Any; ret;", 0, 1, 0, 0);
        flowsOf("load 0; puts A t; gets A t; is Any; ret;", 0, 1, 0, 0);
        flowsOf("load 3; is Any; ret;", 0, 0, 0, 0);
    }

    /**
     * Local 0 is an object of A with marks 4 in field x, local 1 an array of ints with marks 32 of its length, local 2
     * one of refs; locals 3 to 5 are the same. By the marks of the index that they are got with, and so with bit 1 of
     * flows alone, the refs in locals 0 to 2 have marks 1, 2 and 8.
     */
    private static void flowsOf(String code, int always, int index, int read, int written) {
        String text = "class A { field x int; field r ref; static t ref; method f() int { push 3; refs; store 9;"
            + " load 9; push 0; new A; rput; load 9; push 1; source 5; ints; rput; load 9; push 2; push 3; refs; rput;"
            + " load 9; push 0; rget; store 3; load 9; push 1; rget; store 4; load 9; push 2; rget; store 5;"
            + " load 3; source 2; put A x; load 9; source 0; push 0; and; rget; store 0;"
            + " load 9; source 1; push 0; and; push 1; add; rget; store 1;"
            + " load 9; source 3; push 0; and; push 2; add; rget; store 2; " + code + " } }";
        TaintHouse house = T.house(text);
        house.input(4, 1);
        house.input(5, 3);
        for (int flows = 0; flows < 8; flows++) {
            int want = always;
            if ((flows & 1) != 0) {
                want |= index | ((flows & 2) != 0 ? read : 0) | ((flows & 4) != 0 ? written : 0);
            }
            house.flows(flows);
            T.due("run(0) with " + code, house.run(0), 1);
            T.due("marks with flows " + flows + " of " + code, house.result(2), want);
        }
    }

    private static void events() {
        String text = "class A { method f() none { source 1; sink 3; source 2; sink 4; push 5; sink 3; source 1; source 2; add;"
            + " sink 15; source 1; sink 0; ret; } }";
        TaintHouse house = T.house(text);
        house.input(1, -1);
        house.input(2, 7);
        house.policy(3, 2);
        house.policy(4, 65535 - 4);
        house.policy(15, 4);
        T.due("run(0)", house.run(0), 0);
        int[][] want = {{3, -1, 2, 1}, {4, 7, 4, 0}, {3, 5, 0, 0}, {15, 6, 6, 1}, {0, -1, 2, 0}};
        for (int i = 0; i < want.length; i++) {
            for (int what = 0; what < 4; what++) {
                T.due("event(" + i + ", " + what + ")", house.event(i, what), want[i][what]);
            }
            T.due("event(" + i + ", 4)", house.event(i, 4), -1);
            T.due("event(" + i + ", -1)", house.event(i, -1), -1);
        }
        T.due("event(5, 0)", house.event(5, 0), -1);
        T.due("event(-1, 0)", house.event(-1, 0), -1);
        T.due("result(4)", house.result(4), 5);
        T.due("result(5)", house.result(5), 2);
        // Events tell what was the policy at the run.
        house.policy(3, 0);
        T.due("event(0, 3)", house.event(0, 3), 1);
        T.due("result(5)", house.result(5), 2);
        house.run(0);
        T.due("event(0, 3)", house.event(0, 3), 0);
        T.due("result(4)", house.result(4), 5);
        T.due("result(5)", house.result(5), 1);
    }

    private static void calls() {
        String text = "class A { method f(int, int) int { load 0; sink 0; load 1; sink 1; load 1; ret; }"
            + " method g() int { source 1; source 2; call A f; ret; } virtual v(int) int { load 1; mark 8; ret; }"
            + " method h() int { new A; source 5; virt A v; ret; } method n(int) none { load 0; pop; ret; }"
            + " method k() int { push 1; source 5; call A n; ret; } }";
        TaintHouse house = T.house(text);
        T.dueRun(house, text, 1, 1, 0, 4);
        T.due("event(0, 2)", house.event(0, 2), 2);
        T.due("event(1, 2)", house.event(1, 2), 4);
        T.dueRun(house, text, 3, 1, 0, 40);
        T.dueRun(house, text, 5, 1, 1, 0);
    }

    private static void jumpsCarryNone() {
        T.dueInt("source 1; ifne x; push 1; ret; x: push 2; ret;", 2, 0);
        T.dueInt("source 1; source 2; cmplt x; push 1; ret; x: push 2; ret;", 2, 0);
        T.dueInt("source 1; ints; dup; same x; push 1; ret; x: push 2; ret;", 2, 0);
    }
}
