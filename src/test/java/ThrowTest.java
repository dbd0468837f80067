/** Promises 10 and 11: faults that are thrown, their marks, and the tries that catch them. */
public final class ThrowTest {
    private static final Tester T = new Tester();
    private static final int NULL = 2;
    private static final int BOUNDS = 3;
    private static final int SIZE = 4;
    private static final int DIVIDE = 5;
    private static final int CAST = 6;

    public static void main(String[] args) {
        nulls();
        casts();
        boundsAndSizes();
        divisions();
        thrown();
        whichTry();
        throughCalls();
        whatIsLeft();
        T.finish();
    }

    private static final String CLASSES = "class A { field x int; field r ref; virtual v(int, int) int { load 1; ret; } }"
        + " class B : A { virtual w() none { ret; } } class C { field y int; } ";

    /** Code that throws: local 0 is null with mark 1; sources 1 to 4 are 1 to 4. */
    private static void due(int fault, int marks, int done, String code) {
        String text = CLASSES + "class M { method f(ref) none { " + code + " ret; } }";
        for (int flows = 0; flows < 8; flows += 7) {
            TaintHouse house = T.house(text);
            house.flows(flows);
            house.argument(0, 5, 1);
            for (int k = 1; k < 5; k++) {
                house.input(k, k);
            }
            int before = code.split(" new | ints| refs", -1).length - 1 + (code.startsWith("new ") ? 1 : 0);
            T.dueRun(house, code, 2, 3, before, marks);
            T.due("the fault of " + code, house.object(before, 0), fault);
            T.due("object(.., 1) of " + code, house.object(before, 1), 0);
            T.due("object(.., 2) of " + code, house.object(before, 2), 0);
            T.due("result(3) of " + code, house.result(3), done);
            T.due("result(6) of " + code, house.result(6), before + 1);
        }
    }

    private static void nulls() {
        due(NULL, 1, 2, "load 0; get A x;");
        due(NULL, 1, 2, "load 0; get A r;");
        due(NULL, 3, 3, "load 0; source 1; put A x;");
        due(NULL, 1, 3, "load 0; null; put A r;");
        due(NULL, 7, 4, "load 0; source 1; source 2; virt A v;");
        due(NULL, 3, 3, "load 0; source 1; iget;");
        due(NULL, 3, 3, "load 0; source 1; rget;");
        due(NULL, 7, 4, "load 0; source 1; source 2; iput;");
        due(NULL, 3, 4, "load 0; source 1; null; rput;");
        due(NULL, 1, 2, "load 0; length;");
        due(NULL, 1, 2, "load 0; throw;");
        due(NULL, 0, 2, "null; throw;");
        // null is asked ahead of the index.
        due(NULL, 1, 3, "load 0; push - 1; iget;");
    }

    private static void casts() {
        due(CAST, 0, 2, "new C; get A x;");
        due(CAST, 2, 3, "new C; source 1; put A x;");
        due(CAST, 0, 2, "new A; get B x;");
        due(CAST, 0, 2, "new Any; get A x;");
        due(CAST, 0, 3, "push 1; ints; get A x;");
        due(CAST, 6, 4, "new C; source 1; source 2; virt A v;");
        due(CAST, 6, 5, "push 1; ints; source 1; source 2; virt A v;");
        due(CAST, 0, 2, "new A; virt B w;");
        due(CAST, 0, 3, "new A; push 0; iget;");
        due(CAST, 2, 4, "push 1; refs; source 1; iget;");
        due(CAST, 2, 4, "push 1; ints; source 1; rget;");
        due(CAST, 6, 5, "push 1; refs; source 1; source 2; iput;");
        due(CAST, 2, 5, "push 1; ints; source 1; null; rput;");
        due(CAST, 0, 2, "new A; length;");
        due(CAST, 0, 2, "new Any; length;");
        due(CAST, 0, 2, "new A; as B;");
        due(CAST, 0, 2, "new A; as C;");
        due(CAST, 0, 3, "push 1; ints; as A;");
        due(CAST, 0, 3, "push 1; refs; as Fault;");
        // What the ref is, is asked ahead of the index.
        due(CAST, 0, 4, "push 1; refs; push 7; iget;");
    }

    private static void boundsAndSizes() {
        due(BOUNDS, 4, 4, "push 2; ints; source 2; iget;");
        due(BOUNDS, 4, 5, "push 2; ints; source 2; push 0; iput;");
        due(BOUNDS, 12, 5, "push 2; ints; source 2; source 3; iput;");
        due(BOUNDS, 4, 4, "push 2; refs; source 2; rget;");
        due(BOUNDS, 4, 5, "push 2; refs; source 2; null; rput;");
        due(BOUNDS, 0, 4, "push 2; ints; push - 1; iget;");
        due(BOUNDS, 0, 4, "push 2; ints; push - 2147483648; iget;");
        due(BOUNDS, 0, 4, "push 0; ints; push 0; iget;");
        TaintHouse house = T.house("class M { method f() none { source 1; neg; ints; ret; } method g() none { push 5;"
            + " push - 1; mark 9; refs; ret; } }");
        house.input(1, 1);
        T.dueRun(house, "source 1; neg; ints", 0, 3, 0, 2);
        T.due("a SizeFault", house.object(0, 0), SIZE);
        T.due("result(6)", house.result(6), 1);
        T.dueRun(house, "push - 1; mark 9; refs", 1, 3, 0, 9);
        T.due("a SizeFault", house.object(0, 0), SIZE);
    }

    private static void divisions() {
        due(DIVIDE, 2, 3, "source 1; push 0; div;");
        due(DIVIDE, 2, 3, "source 1; push 0; rem;");
        due(DIVIDE, 34, 3, "source 1; source 5; div;");
        due(DIVIDE, 34, 3, "source 1; source 5; rem;");
    }

    private static void thrown() {
        String text = "class E : DivideFault { field x int; } class M { method f() ref { push 1; ints; throw; }"
            + " method g() ref { a: new E; throw; b: ret; try a b b DivideFault; }"
            + " method h() ref { a: source 1; push 0; div; pop; null; ret; b: throw; c: ret; try a b b Any; try b c c DivideFault; }"
            + " method i() ref { a: source 1; push 0; div; pop; null; ret; b: ret; try a b b E; } }";
        TaintHouse house = T.house(text);
        T.dueRun(house, text, 0, 3, 0, 0);
        T.due("object(0, 0)", house.object(0, 0), -2);
        T.dueRun(house, text, 1, 2, 0, 0);
        T.due("object(0, 0)", house.object(0, 0), 7);
        T.dueRun(house, text, 2, 2, 0, 2);
        T.due("result(3)", house.result(3), 5);
        T.due("result(6)", house.result(6), 1);
        T.dueRun(house, text, 3, 3, 0, 2);
        T.due("object(0, 0)", house.object(0, 0), DIVIDE);
    }

    /** The first try of the text whose class fits and that the instruction lies in. */
    private static void whichTry() {
        String head = "class E : Fault { } class F : E { } class M { method f() int { ";
        String tail = " x: pop; push 10; ret; y: pop; push 20; ret; z: pop; push 30; ret; ";
        String body = "a: push 1; pop; b: new F; throw; c: push 2; ret;" + tail;
        String[] rows = {"try a c x Any; try a c y Any;:10", "try b c x E; try a c y Any;:10", "try a b x E; try b c y E;:20",
            "try a c x NullFault; try a c y E;:20", "try a b x Any; try a c y CastFault; try a c z F;:30",
            "try b c y Fault; try b c z F;:20", "try a c x DivideFault; try b x z M; try a c y F;:20"};
        for (String row : rows) {
            int colon = row.lastIndexOf(':');
            int want = Integer.parseInt(row.substring(colon + 1));
            T.dueRun(head + body + row.substring(0, colon) + " } }", 0, 1, want, 0);
            T.dueRun(head + row.substring(0, colon) + body + " } }", 0, 1, want, 0);
        }
        T.dueRun(head + body + "try a b x Any; try c x y Any; } }", 0, 3, 0, 0);
        T.dueRun(head + body + "try a c x M; } }", 0, 3, 0, 0);
        // Arrays are of Any alone.
        String array = head + "a: push 0; ints; throw; b: " + tail.substring(1);
        T.dueRun(array + "try a b x Fault; try a b y Any; try a b z Any; } }", 0, 1, 20, 0);
        // A handler lies in no try of its own but where it is told to.
        T.dueRun(head + "a: null; throw; b: pop; null; throw; c: pop; push 7; ret; try a b b Any; try b c c Any; } }", 0, 1, 7, 0);
        T.dueRun(head + "a: null; throw; b: pop; null; throw; try a b b Any; } }", 0, 3, 1, 0);
    }

    private static void throughCalls() {
        String text = "class M { method f(int) int { load 0; source 3; div; ret; }"
            + " method g(int) int { push 1; push 2; load 0; a: call M f; b: add; add; ret; c: is DivideFault; ret; try a b c DivideFault; }"
            + " method h(int) int { a: load 0; call M f; b: ret; c: pop; push 9; ret; try b c c Any; }"
            + " method i(int) int { a: load 0; call M h; b: ret; c: is Fault; push 5; add; ret; try a b c Fault; }"
            + " virtual v(int) int { load 1; call M f; ret; }"
            + " method j(int) int { a: new M; load 0; virt M v; b: ret; c: is Any; ret; try a b c Any; } }";
        TaintHouse house = T.house(text);
        house.argument(0, 6, 4);
        T.dueRun(house, text, 1, 1, 1, 12);
        T.due("result(3)", house.result(3), 4 + 3 + 2);
        T.dueRun(house, text, 2, 3, 0, 12);
        T.due("object(0, 0)", house.object(0, 0), DIVIDE);
        T.dueRun(house, text, 3, 1, 6, 12);
        T.dueRun(house, text, 5, 1, 1, 12);
        T.due("result(6)", house.result(6), 2);
        house.input(3, 2);
        T.dueRun(house, text, 1, 1, 6, 12);
        T.dueRun(house, text, 3, 1, 3, 12);
    }

    /** An instruction that throws leaves fields, elements and statics as they are. */
    private static void whatIsLeft() {
        String text = "class M { static s ref; static n int; field x int; method f() none { push 2; ints; puts M s; gets M s;"
            + " push 1; push 7; iput; push 3; mark 4; puts M n; a: gets M s; push 2; push 8; iput; ret; b: pop; push 4; puts M n;"
            + " ret; try a b b BoundsFault; } }";
        TaintHouse house = T.dueRun(text, 0, 0, 0, 0);
        T.due("slot(0, 0, 0)", house.slot(0, 0, 0), 0);
        T.due("slot(0, 1, 0)", house.slot(0, 1, 0), 7);
        T.due("stat(0, 0)", house.stat(0, 0), 0);
        T.due("stat(1, 0)", house.stat(1, 0), 4);
        T.due("stat(1, 1)", house.stat(1, 1), 0);
        T.due("object(1, 0)", house.object(1, 0), BOUNDS);
        T.due("result(7)", house.result(7), 4);
    }
}
