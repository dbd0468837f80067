/** Promises 10 and 11: what instructions make of values, and how a run ends. */
public final class ValuesTest {
    private static final Tester T = new Tester();
    private static final int LEAST = Integer.MIN_VALUE;
    private static final int MOST = Integer.MAX_VALUE;

    public static void main(String[] args) {
        sums();
        jumps();
        stackAndLocals();
        fieldsAndStatics();
        arrays();
        types();
        calls();
        virtuals();
        endings();
        T.finish();
    }

    private static String push(int number) {
        return number < 0 ? "push - " + -(long) number + "; " : "push " + number + "; ";
    }

    private static void sum(String word, int left, int right, int want) {
        T.dueInt(push(left) + push(right) + word + "; ret;", want, 0);
    }

    private static void sums() {
        sum("add", 7, 2, 9);
        sum("add", MOST, 1, LEAST);
        sum("sub", 7, 2, 5);
        sum("sub", LEAST, 1, MOST);
        sum("mul", 7, -2, -14);
        sum("mul", 65536, 65537, 65536);
        sum("div", 7, 2, 3);
        sum("div", -7, 2, -3);
        sum("div", 7, -2, -3);
        sum("div", LEAST, -1, LEAST);
        sum("div", 0, 5, 0);
        sum("div", 7, 1, 7);
        sum("rem", 7, 1, 0);
        sum("rem", 7, 2, 1);
        sum("rem", -7, 2, -1);
        sum("rem", 7, -2, 1);
        sum("rem", LEAST, -1, 0);
        sum("and", 12, 10, 8);
        sum("or", 12, 10, 14);
        sum("xor", 12, 10, 6);
        sum("shl", 7, 2, 28);
        sum("shl", 1, 31, LEAST);
        sum("shl", 1, 32, 1);
        sum("shl", 1, -1, LEAST);
        sum("shr", 7, 2, 1);
        sum("shr", -8, 1, -4);
        sum("shr", -8, 33, -4);
        sum("ushr", -8, 1, 2147483644);
        sum("ushr", -8, 32, -8);
        sum("ushr", -1, 31, 1);
        T.dueInt(push(5) + "neg; ret;", -5, 0);
        T.dueInt(push(LEAST) + "neg; ret;", LEAST, 0);
    }

    private static void jumps() {
        String[] tests = {"eq", "ne", "lt", "ge", "gt", "le"};
        int[][] pairs = {{2, 7}, {7, 7}, {7, 2}, {LEAST, MOST}, {MOST, LEAST}, {-1, 0}};
        for (int i = 0; i < tests.length; i++) {
            for (int[] pair : pairs) {
                boolean[] holds = {pair[0] == pair[1], pair[0] != pair[1], pair[0] < pair[1], pair[0] >= pair[1],
                    pair[0] > pair[1], pair[0] <= pair[1]};
                String rest = " x; push 10; ret; x: push 20; ret;";
                T.dueInt(push(pair[0]) + push(pair[1]) + "cmp" + tests[i] + rest, holds[i] ? 20 : 10, 0);
            }
            for (int n : new int[] {LEAST, -1, 0, 1, MOST}) {
                boolean[] holds = {n == 0, n != 0, n < 0, n >= 0, n > 0, n <= 0};
                T.dueInt(push(n) + "if" + tests[i] + " x; push 10; ret; x: push 20; ret;", holds[i] ? 20 : 10, 0);
            }
        }
        String rest = " x; push 10; ret; x: push 20; ret;";
        T.dueInt("null; ifnull" + rest, 20, 0);
        T.dueInt("null; ifsome" + rest, 10, 0);
        T.dueInt("new A; ifnull" + rest, 10, 0);
        T.dueInt("new A; ifsome" + rest, 20, 0);
        T.dueInt("null; null; same" + rest, 20, 0);
        T.dueInt("null; null; other" + rest, 10, 0);
        T.dueInt("new A; dup; same" + rest, 20, 0);
        T.dueInt("new A; dup; other" + rest, 10, 0);
        T.dueInt("new A; new A; same" + rest, 10, 0);
        T.dueInt("new A; new A; other" + rest, 20, 0);
        T.dueInt("new A; null; same" + rest, 10, 0);
        T.dueInt("goto x; y: push 4; ret; x: goto y;", 4, 0);
        T.dueInt("push 0; store 0; push 0; store 1; x: load 0; load 1; add; store 1; inc 0 1; load 0; push 10; cmplt x;"
            + " load 1; ret;", 45, 0);
    }

    private static void stackAndLocals() {
        T.dueInt("push 7; push 2; swap; sub; ret;", -5, 0);
        T.dueInt("push 7; dup; mul; ret;", 49, 0);
        T.dueInt("push 7; push 2; pop; ret;", 7, 0);
        T.dueInt("push 7; store 0; push 8; store 15; load 0; ret;", 7, 0);
        T.dueInt("push 7; store 0; push 8; store 15; load 15; ret;", 8, 0);
        T.dueInt("push 7; store 3; inc 3 - 9; load 3; ret;", -2, 0);
        T.dueInt(push(MOST) + "store 3; inc 3 32767; load 3; ret;", LEAST + 32766, 0);
        T.dueInt("push 1; push 2; push 3; ret;", 3, 0);
    }

    private static void fieldsAndStatics() {
        T.dueInt("new A; get A x; ret;", 0, 0);
        T.dueInt("new A; get A r; ifnull x; push 1; ret; x: push 2; ret;", 2, 0);
        T.dueInt("new A; dup; push 5; put A x; get A x; ret;", 5, 0);
        T.dueInt("gets A s; ret;", 0, 0);
        T.dueInt("push 5; puts A s; gets A s; ret;", 5, 0);
        String text = "class A { field x int; field y int; static s int; } class B : A { field x int; field z ref; static s int; }"
            + " class C { method f() int { new B; store 0; load 0; push 1; put A x; load 0; push 2; put B x; load 0; push 3;"
            + " put B y; push 4; puts A s; push 5; puts B s; load 0; load 0; put B z; load 0; get B z; get A x; push 10; mul;"
            + " load 0; get B x; add; push 10; mul; load 0; get A y; add; push 10; mul; gets A s; add; push 10; mul; gets B s;"
            + " add; ret; } }";
        TaintHouse house = T.dueRun(text, 0, 1, 12345, 0);
        int[] slots = {1, 3, 2, 0};
        for (int k = 0; k < 4; k++) {
            T.due("slot(0, " + k + ", 0)", house.slot(0, k, 0), slots[k]);
        }
        T.due("stat(0, 0)", house.stat(0, 0), 4);
        T.due("stat(1, 0)", house.stat(1, 0), 5);
    }

    private static void arrays() {
        T.dueInt("push 3; ints; dup; store 0; push 2; push 9; iput; load 0; push 2; iget; ret;", 9, 0);
        T.dueInt("push 3; ints; push 1; iget; ret;", 0, 0);
        T.dueInt("push 3; ints; length; ret;", 3, 0);
        T.dueInt("push 0; refs; length; ret;", 0, 0);
        T.dueInt("push 2; refs; dup; dup; push 1; swap; rput; push 1; rget; length; ret;", 2, 0);
        T.dueInt("push 2; refs; push 1; rget; ifnull x; push 5; ret; x: push 6; ret;", 6, 0);
    }

    private static void types() {
        String head = "class A : Fault { } class B : A { } class C { method f() int { ";
        String[] rows = {"new B; is B:1", "new B; is A:1", "new B; is Fault:1", "new B; is Any:1", "new B; is C:0",
            "new A; is B:0", "new B; is NullFault:0", "null; is Any:0", "null; is A:0", "push 1; ints; is Any:1",
            "push 1; ints; is C:0", "push 1; refs; is Any:1", "push 1; refs; is Fault:0", "new Any; is Any:1",
            "new Any; is Fault:0", "null; as B; is B:0", "new B; as A; is B:1", "push 1; ints; as Any; length:1"};
        for (String row : rows) {
            String code = row.substring(0, row.indexOf(':'));
            T.dueRun(head + code + "; ret; } }", 0, 1, row.charAt(row.length() - 1) - '0', 0);
        }
    }

    private static void calls() {
        String text = "class A { method f(int, ref, int) int { load 0; push 10; mul; load 2; add; load 1; length; add; ret; }"
            + " method n(int) none { load 0; puts A s; push 9; ret; } static s int;"
            + " method g() int { push 100; push 4; push 3; ints; push 5; call A f; push 7; call A n; gets A s; mul; add; ret; }"
            + " method k(int) int { load 0; ifgt x; push 1; ret; x: load 0; dup; push 1; sub; call A k; mul; ret; } }"
            + " class B : A { method h() int { push 5; call B k; ret; } }"
            + " class D : B { method k(int) int { push 1000; ret; } method i() int { push 5; call D k; push 3; call B k; add; ret; } }";
        TaintHouse house = T.house(text);
        T.dueRun(house, text, 2, 1, 100 + 48 * 7, 0);
        T.dueRun(house, text, 4, 1, 120, 0);
        T.dueRun(house, text, 6, 1, 1006, 0);
        house.argument(0, 6, 0);
        T.dueRun(house, text, 3, 1, 720, 0);
        // A local that a call sets is that call's own.
        T.dueInt("push 1; store 0; call A f2; pop; load 0; ret; } method f2() int { push 8; store 0; load 0; ret;", 1, 0);
    }

    private static void virtuals() {
        String text = "class A { virtual v() int { push 1; ret; } virtual w() int { load 0; virt A v; push 10; add; ret; }"
            + " method u() int { push 5; ret; } }"
            + " class B : A { virtual v() int { push 2; ret; } field w int; }"
            + " class C : B { method v() int { push 3; ret; } virtual u() int { push 6; ret; } }"
            + " class D : C { virtual v() int { push 4; ret; } }"
            + " class M { method a() int { new A; virt A v; ret; } method b() int { new B; virt A v; ret; }"
            + " method c() int { new C; virt C v; ret; } method d() int { new D; virt B v; ret; }"
            + " method e() int { new D; virt C w; ret; } method f() int { call D v; ret; }"
            + " method g() int { call D u; push 100; mul; new D; virt D u; add; ret; } }";
        TaintHouse house = T.house(text);
        int[] want = {1, 2, 2, 4, 14, 3, 506};
        for (int i = 0; i < want.length; i++) {
            T.dueRun(house, text, 7 + i, 1, want[i], 0);
        }
    }

    private static void endings() {
        String text = "class A { method a() none { push 3; ret; } method b() int { push 3; push 4; mark 2; ret; }"
            + " method c() ref { null; ret; } method d() ref { new A; pop; new A; ret; } method e() ref { new A; throw; }"
            + " method f(ref) ref { load 0; ret; } }";
        TaintHouse house = T.house(text);
        T.dueRun(house, text, 0, 0, 0, 0);
        T.due("result(3)", house.result(3), 2);
        T.dueRun(house, text, 1, 1, 4, 2);
        T.due("result(3)", house.result(3), 4);
        T.dueRun(house, text, 2, 2, -1, 0);
        T.dueRun(house, text, 3, 2, 1, 0);
        T.due("result(6)", house.result(6), 2);
        T.due("result(7)", house.result(7), 2);
        T.dueRun(house, text, 4, 3, 0, 0);
        T.due("result(3)", house.result(3), 2);
        house.argument(0, 5, 9);
        T.dueRun(house, text, 5, 2, -1, 9);
        T.due("result(6)", house.result(6), 0);
        T.due("run(6)", house.run(6), -10);
        T.due("run(-1)", house.run(-1), -10);
        T.due("result(0) behind run() of -10", house.result(0), 2);
        T.due("result(2) behind run() of -10", house.result(2), 9);
        T.due("result(-1)", house.result(-1), -1);
        T.due("result(8)", house.result(8), -1);
    }
}
