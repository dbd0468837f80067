/** Promises 4, 5 and 17: fault 5, what instructions take and give, and how deep a stack becomes. */
public final class CodeFaultTest {
    private static final Tester T = new Tester();

    public static void main(String[] args) {
        whatInstructionsTake();
        results();
        locals();
        depths();
        endsOfMethods();
        stacksThatDiffer();
        tries();
        order();
        deepest();
        anotherTextIsLookedAtAnew();
        T.finish();
    }

    /** A method that answers nothing; class A has all that instructions may ask for. */
    private static String code(String items) {
        return Words.withMethod("() none", items);
    }

    private static String code(String head, String items) {
        return Words.withMethod(head, items);
    }

    private static String pushes(String kinds) {
        return Words.pushes(kinds);
    }

    private static String takes(String kinds) {
        return Words.takes(kinds);
    }

    private static void whatInstructionsTake() {
        for (String row : Words.TAKEN_AND_GIVEN) {
            String word = row.substring(0, row.indexOf(':'));
            String took = row.substring(row.indexOf(' ', row.indexOf(':')) + 1, row.indexOf('>'));
            String gave = row.substring(row.indexOf('>') + 1);
            T.dueRight(code(pushes(took) + word + "; L: " + takes(gave) + "ret;"), 4);
            for (int i = 0; i < took.length(); i++) {
                T.dueFault(5, code(pushes(took.substring(i + 1)) + "~" + word + "; L: ret;"));
                char other = took.charAt(i) == 'i' ? 'r' : 'i';
                String changed = took.substring(0, i) + other + took.substring(i + 1);
                T.dueFault(5, code(pushes(changed) + "~" + word + "; L: ret;"));
            }
            // What it gives has the kind that is told, and it gives no more.
            if (!gave.isEmpty()) {
                String other = gave.equals("i") ? "~throw;" : "~sink 0;";
                T.dueFault(5, code(pushes(took) + word + "; L: " + other + " ret;"));
            }
            T.dueFault(5, code(pushes(took) + word + "; L: " + takes(gave) + "~pop; ret;"));
        }
        for (String kind : new String[] {"i", "r"}) {
            T.dueRight(code(pushes(kind) + "dup; " + takes(kind + kind) + "ret;"), 4);
            T.dueRight(code(pushes(kind) + "pop; ret;"), 4);
            T.dueRight(code(pushes(kind) + "store 3; load 3; " + takes(kind) + "ret;"), 4);
            T.dueFault(5, code(pushes(kind) + "~swap; ret;"));
        }
        T.dueRight(code(pushes("ir") + "swap; " + takes("ri") + "ret;"), 4);
        T.dueRight(code(pushes("ri") + "swap; " + takes("ir") + "ret;"), 4);
        T.dueFault(5, code(pushes("ir") + "swap; ~as Any; ret;"));
        for (String word : new String[] {"dup", "pop", "swap", "store 1", "throw"}) {
            T.dueFault(5, code("~" + word + "; ret;"));
        }
        T.dueFault(5, code(pushes("i") + "~throw;"));
        T.dueRight(code(pushes("ir") + "throw;"), 4);
    }

    private static void results() {
        T.dueRight(code("() none", "push 1; null; ret;"), 4);
        T.dueRight(code("() int", "null; push 1; ret;"), 4);
        T.dueRight(code("() ref", "push 1; null; ret;"), 4);
        T.dueFault(5, code("() int", "~ret;"));
        T.dueFault(5, code("() int", "push 1; null; ~ret;"));
        T.dueFault(5, code("() ref", "~ret;"));
        T.dueFault(5, code("() ref", "null; push 1; ~ret;"));
    }

    private static void locals() {
        T.dueRight(code("(int, ref) none", "load 0; sink 0; load 1; throw;"), 4);
        T.dueFault(5, code("(int, ref) none", "load 0; ~throw;"));
        T.dueFault(5, code("(int, ref) none", "load 1; ~sink 1; ret;"));
        T.dueFault(5, code("(int, ref) none", "~load 2; ret;"));
        T.dueFault(5, code("() none", "~load 0; ret;"));
        T.dueFault(5, code("() none", "~inc 15 1; ret;"));
        T.dueFault(5, code("(ref) none", "~inc 0 1; ret;"));
        T.dueRight(code("(int) none", "inc 0 1; ret;"), 4);
        T.dueRight(code("(int, int, int, int, int, ref) none", "load 5; throw;"), 4);
        String virtual = "class A { virtual v(int, ref) none { load 0; throw; load 1; sink 0; load 2; throw; } }";
        T.dueRight(virtual, 1);
        T.dueFault(5, virtual.replace("load 0; throw;", "load 0; ~sink 0;"));
        T.dueFault(5, virtual.replace("load 0; throw;", "load 1; ~throw;"));
        T.dueFault(5, virtual.replace("load 0; throw;", "load 2; ~sink 0;"));
        T.dueFault(5, virtual.replace("load 0; throw;", "~load 3;"));
        // Stores change what a local is; ways that meet leave it all that it may be.
        T.dueRight(code("(int) none", "null; store 0; load 0; throw;"), 4);
        T.dueFault(5, code("(int) none", "null; store 0; load 0; ~sink 0; ret;"));
        T.dueFault(5, code("(int) none", "load 0; ifeq x; push 1; store 1; x: ~load 1; ret;"));
        T.dueFault(5, code("(int) none", "load 0; ifeq x; null; store 0; x: ~load 0; ret;"));
        T.dueFault(5, code("(int) none", "load 0; ifeq x; null; store 0; x: ~inc 0 1; ret;"));
        T.dueRight(code("(int) none", "load 0; ifeq x; null; store 0; x: ret;"), 4);
        T.dueRight(code("(int) none", "load 0; ifeq x; null; store 0; x: push 1; store 0; inc 0 1; load 0; sink 0; ret;"), 4);
        T.dueFault(5, code("(int) none", "x: ~load 0; sink 0; null; store 0; goto x;"));
        T.dueFault(5, code("(int) none", "x: ~inc 0 1; null; store 0; goto x;"));
        for (int k = 1; k < 16; k++) {
            T.dueFault(5, code("(int) none", "load 0; ifeq x; push 1; store " + k + "; x: ~load " + k + "; ret;"));
            T.dueFault(5, code("(int) none", "load 0; ifeq x; null; store " + k + "; x: ~load " + k + "; ret;"));
        }
        T.dueFault(5, code("(ref) none", "load 0; ifnull x; push 1; store 0; x: ~load 0; ret;"));
        T.dueFault(5, code("(ref) none", "load 0; ifnull x; push 1; store 0; x: ~inc 0 1; ret;"));
        T.dueFault(5, code("(int) none", "load 0; ifeq y; push 1; store 1; x: ~load 1; ret; y: goto x;"));
        T.dueFault(5, code("(int) none", "load 0; ifeq y; push 1; store 1; x: ~inc 1 1; ret; y: null; store 1; goto x;"));
        T.dueFault(5, code("(int) none", "load 0; ifeq y; null; store 1; x: ~load 1; ret; y: push 1; store 1; goto x;"));
        // What a local gains goes on from instruction to instruction, round by round.
        T.dueFault(5, code("(int) none", "goto b; a: ~load 1; sink 0; ret; b: push 1; store 1; load 0; ifeq a;"
            + " null; store 1; goto a;"));
    }

    private static void depths() {
        String sixteen = pushes("iiiiiiiiiiiiiiii");
        T.dueRight(code(sixteen + "ret;"), 4);
        T.dueFault(5, code(sixteen + "~push 1; ret;"));
        T.dueFault(5, code(sixteen + "~dup; ret;"));
        T.dueFault(5, code(sixteen + "~null; ret;"));
        T.dueFault(5, code(sixteen + "~gets A s; ret;"));
        T.dueFault(5, code(sixteen + "~source 0; ret;"));
        T.dueFault(5, code(sixteen + "~new A; ret;"));
        T.dueFault(5, code("(int) none", sixteen + "~load 0; ret;"));
        T.dueRight(code(sixteen + "swap; neg; add; dup; ret;"), 4);
        T.dueRight(code(pushes("rrrrrrrrrrrrrrrr") + "swap; as A; throw;"), 4);
        T.dueRight(code(pushes("rrrrrrrrrrrrrrir") + "call A m; sink 0; ret;"), 4);
    }

    private static void endsOfMethods() {
        T.dueFault(5, code("~"));
        T.dueFault(5, code("x: ~"));
        T.dueFault(5, code("push 1; ~"));
        T.dueFault(5, code("push 1; x: ~"));
        T.dueFault(5, code("goto x; x: ~"));
        T.dueFault(5, code("push 1; ifeq x; ret; x: ~"));
        T.dueFault(5, code("call A n; ~"));
        T.dueRight(code("ret; x:"), 4);
        T.dueRight(code("x: goto x;"), 4);
        T.dueRight(code("ret; push 1;"), 4);
        T.dueRight(code("ret; goto x; x:"), 4);
        T.dueRight(code("null; throw; add; sub;"), 4);
    }

    private static void stacksThatDiffer() {
        T.dueFault(5, code("x: ~push 1; goto x;"));
        T.dueFault(5, code("push 1; ifeq x; push 1; x: ~ret;"));
        T.dueFault(5, code("push 1; push 1; ifeq x; pop; null; x: ~ret;"));
        T.dueFault(5, code("null; push 1; push 1; ifeq x; pop; pop; push 1; null; x: ~ret;"));
        T.dueRight(code("push 1; push 1; ifeq x; pop; push 2; x: ret;"), 4);
    }

    private static void tries() {
        T.dueRight(code("a: push 1; pop; ret; b: throw; try a b b Any;"), 4);
        T.dueFault(5, code("a: push 1; pop; ret; b: ~sink 0; ret; try a b b Any;"));
        T.dueFault(5, code("a: push 1; pop; b: ~ret; try a b b Any;"));
        // Every instruction comes to it: goto, ret and throw, too.
        for (String one : new String[] {"goto c;", "ret;", "null; throw;"}) {
            T.dueFault(5, code("a: " + one + " b: c: ret; d: ~add; try a b d Any;"));
        }
        T.dueRight(code("a: ret; b: ret; c: add; try b c c Any;"), 4);
        T.dueFault(5, code("goto b; a: ret; b: ret; c: ~add; try b c c Any;"));
        T.dueRight(code("goto b; a: ret; b: ret; c: add; try a b c Any;"), 4);
        // A label at the end is none to come to, but may be the second one of a try.
        T.dueRight(code("goto a; x: pop; ret; a: ret; b: try a b x Any;"), 4);
        T.dueFault(5, code("a: ret; b: try a b b Any; ~"));
        T.dueRight(code("ret; a: ret; b: try a b b Any;"), 4);
        // With the locals ahead of the instruction: a store shows only behind it.
        T.dueFault(5, code("push 1; a: store 0; b: ret; c: ~load 0; ret; try a b c Any;"));
        T.dueFault(5, code("push 1; a: store 0; load 0; b: ret; c: ~load 0; ret; try a b c Any;"));
        T.dueRight(code("push 1; store 0; a: load 0; b: ret; c: load 0; ret; try a b c Any;"), 4);
        T.dueFault(5, code("(int) none", "null; a: store 0; load 0; b: ret; c: ~load 0; ret; try a b c Any;"));
        T.dueRight(code("(int) none", "null; a: store 0; b: ret; c: load 0; sink 0; ret; try a b c Any;"), 4);
    }

    private static void order() {
        // Methods in order; the first fault that is found ends it.
        T.dueFault(5, "class A { method f() none { ret; } method g() none { ~add; } method h() none { sub; } }");
        // The lowest instruction first, also where one that is higher was come to earlier.
        T.dueFault(5, code("goto b; a: ~add; b: push 1; ifeq a; sub;"));
        T.dueFault(5, code("push 1; ifeq b; a: ~add; b: sub;"));
        T.dueFault(5, code("goto b; a: push 1; ~throw; b: push 1; ifeq a; sub;"));
        // What is behind an instruction: the next one, then the label, then tries as they stand.
        T.dueFault(5, code("x: push 1; push 1; ifeq x; ~"));
        T.dueFault(5, code("x: ~push 1; dup; ifeq x; y: ret;"));
        T.dueFault(5, code("goto b; a: pop; ret; b: push 1; push 1; goto c; d: ret; c: ifeq a; ~"));
        T.dueFault(5, code("a: push 1; b: dup; ifeq a; c: ~ret; try b c c Any;"));
        T.dueFault(5, code("goto b; a: ret; b: push 1; c: ~pop; d: ret; try b c d Any; try b c c Any;"));
        T.dueFault(5, code("a: push 1; b: ret; c: ~add; d: sub; try a b d Any; try a b c Any;"));
        T.dueFault(5, code("a: push 1; b: ~pop; c: ret; try a b b Any;"));
        T.dueFault(5, code("null; a: pop; b: ~ret; d: try a b b Any; try a b d Any;"));
        T.dueFault(5, code("null; a: pop; b: ret; d: try a b d Any; try a b b Any; ~"));
    }

    private static void deepest() {
        deepest(0, "() none", "ret;");
        deepest(0, "() none", "x: goto x;");
        deepest(0, "(int, int) none", "ret;");
        deepest(1, "() none", "push 1; ret;");
        deepest(1, "() none", "push 1; pop; ret;");
        deepest(2, "() none", "push 1; push 1; add; pop; ret;");
        deepest(0, "() none", "ret; push 1; push 1; add; pop; ret;");
        deepest(3, "() none", "push 1; ifeq x; ret; x: null; null; null; throw;");
        deepest(16, "() none", pushes("iiiiiiiiiiiiiiii") + "ret;");
        deepest(1, "() none", "a: ret; b: pop; ret; try a b b Any;");
        // What is given last and then not taken by an instruction that is come to isn't ahead of one.
        deepest(1, "() int", "push 1; ret;");
    }

    /** A fault leaves instructions that were come to and not looked at; the next text has none of them. */
    private static void anotherTextIsLookedAtAnew() {
        TaintHouse house = new TaintHouse();
        T.due("text() with a fault", Tester.read(house, code("push 1; ifeq b; add; b: ret;")), -5005);
        T.due("text() that is right", Tester.read(house, code("ret; ret; ret; add; sub; ret;")), 4);
        T.due("method(3, 5)", house.method(3, 5), 0);
    }

    private static void deepest(int want, String head, String items) {
        TaintHouse house = T.house("class A { method f" + head + " { " + items + " } }");
        T.due("method(0, 5) of " + items, house.method(0, 5), want);
    }
}
