/** Promises 2 to 5 and 10: texts as full as they may be, and one object that is used for many of them. */
public final class FullTest {
    private static final Tester T = new Tester();

    public static void main(String[] args) {
        tokens();
        endOfTape();
        code();
        tries();
        names();
        manyTexts();
        fullStacks();
        T.finish();
    }

    private static String filled(String text) {
        return Tester.times(4000 - text.length(), " ") + text;
    }

    private static void tokens() {
        T.dueWrong("~" + Tester.times(4000, "{"));
        T.dueWrong("class A{" + "~" + Tester.times(3992, "{"));
        T.dueWrong("class A{method f()none{" + Tester.times(1000, "a:") + "~-" + Tester.times(1976, "-"));
    }

    /** The last byte of a full tape belongs to a name, a number, a sign or a blank. */
    private static void endOfTape() {
        String[] tails = {"class A { method f() none { push 0", "class A { method f() none { push 12345", "class A { method f",
            "class A { method f() none { goto abcdefghijkl", "class A { # }"};
        for (String tail : tails) {
            T.dueWrong(filled(tail) + "~");
        }
        T.dueWrong(filled("class abcdefghijkl~m").substring(1));
        T.dueRight(filled("class A { }"), 0);
        T.dueWrong(Tester.times(4000, " ") + "~");
        T.dueWrong(Tester.times(4000, "#") + "~");
    }

    private static void code() {
        String text = "class A{" + Tester.times(12, "method f%()none{ret;" + Tester.times(99, "or;") + "}") + "}";
        T.dueRight(text, 12);
        TaintHouse house = T.house(text);
        T.due("method(11, 4)", house.method(11, 4), 100);
        T.due("run(11)", house.run(11), 0);
        T.due("result(3)", house.result(3), 1);
    }

    private static void tries() {
        String one = "method f%()int{a:null;throw;b:pop;push %;ret;" + Tester.times(7, "try a b b B;") + "try a b b Any;}";
        String text = "class A{" + Tester.times(24, one) + "}class B{}";
        TaintHouse house = T.house(text);
        for (int m = 0; m < 24; m++) {
            T.dueRun(house, "a try of method " + m, m, 1, m, 0);
        }
    }

    /** As many names as a tape can have: each of one or two signs, with a sign behind it. */
    private static void names() {
        StringBuilder text = new StringBuilder("class A{method f()none{");
        String letters = "abcdefghijklmnopqrstuvwxyzABCDEFGHIJKLMNOPQRSTUVWXYZ";
        for (int i = 0; i < 52; i++) {
            text.append(letters.charAt(i)).append(':');
        }
        for (int i = 0; text.length() < 3980; i++) {
            text.append(letters.charAt(i % 52)).append((char) ('0' + i / 52 % 10));
            text.append(i / 520 > 0 ? letters.substring(i / 520, i / 520 + 1) : "").append(':');
        }
        String head = text.toString();
        T.dueRight(head + "goto a;}}", 1);
        T.dueFault(1, head + "~a0:ret;}}");
        T.dueFault(1, head + "~Z:ret;}}");
        T.dueFault(2, head + "goto ~q1Q9;}}");
    }

    /** What earlier texts had leaves no trace, and takes no room from later ones. */
    private static void manyTexts() {
        TaintHouse house = new TaintHouse();
        String full = "class A { " + Tester.times(16, "static s% int; ") + Tester.times(8, "field x% int; ") + "} class B : A { "
            + Tester.times(8, "field x% ref; ") + Tester.times(8, "method f%() none { a: ret; b: pop; ret; " + Tester.times(50, "or; ")
            + Tester.times(8, "try a b b A; ") + "} ") + "}";
        String[] kinds = {full, "class A { } class A { }", "class A { field", "class A { method f() none { add; } }"};
        int[] answers = {8, -5001, -16, -5005};
        for (int round = 0; round < 60; round++) {
            for (int i = 0; i < kinds.length; i++) {
                T.due("text() " + i + " in round " + round, Tester.read(house, kinds[i]), answers[i]);
            }
            String names = "class A { method f() none { " + Tester.times(100, "n" + round + "x%: ") + "ret; } }";
            T.due("text() of names in round " + round, Tester.read(house, names), 1);
            T.due("count(2)", house.count(2), 0);
        }
    }

    private static void fullStacks() {
        // Sixteen values in a handler of the 24th method, and in each method that is called again and again.
        String deep = "class A { method f(int) int { inc 0 - 1; load 0; ifgt x; a: null; throw; b: " + Tester.times(15, "push 1; ")
            + Tester.times(14, "add; ") + "ret; x: load 0; call A f; ret; try a b b Any; }"
            + " method g() int { push 500; store 0; push 0; store 1; x: call A h; load 1; add; store 1; inc 0 - 1; load 0; ifgt x;"
            + " load 1; ret; } method h() int { " + Tester.times(16, "push 2; ") + "ret; } }";
        TaintHouse house = T.house(deep);
        house.argument(0, 24, 0);
        T.dueRun(house, "a full stack of the last method", 0, 1, 15, 0);
        T.dueRun(house, "full stacks that are left", 1, 1, 1000, 0);
        String sum = "class A { method f(int) int { inc 0 - 1; load 0; ifgt x; " + Tester.times(16, "push 1; ") + Tester.times(15, "add; ")
            + "ret; x: load 0; call A f; ret; } }";
        TaintHouse last = T.house(sum);
        last.argument(0, 24, 0);
        T.dueRun(last, "a full stack of the last method", 0, 1, 16, 0);
        // A frame that was left by a throw begins anew, too.
        String thrown = "class A { method f() none { " + Tester.times(15, "push 1; ") + "null; throw; } method g() int { push 500; store 0;"
            + " a: call A f; b: push 1; ret; c: pop; inc 0 - 1; load 0; ifgt a; push 7; ret; try a b c Any; } }";
        T.dueRun(thrown, 1, 1, 7, 0);
    }
}
