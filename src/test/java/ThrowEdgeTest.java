/** What is thrown, sentence by sentence: which fault, with which marks, and the try that it comes to. */
public final class ThrowEdgeTest {
    private static final int NULL = 2;
    private static final int BOUNDS = 3;
    private static final int SIZE = 4;
    private static final int DIVIDE = 5;
    private static final int CAST = 6;
    private static final String CLASSES = "class A { field x int; field r ref; static s int;"
        + " virtual v(int, ref, int, ref, int, ref) int { push 1; ret; } virtual w() none { ret; } } class B : A { }"
        + " class C { field x int; } ";

    private final Tester t;

    ThrowEdgeTest(Tester tester) {
        t = tester;
    }

    public static void main(String[] args) {
        Tester tester = new Tester();
        new ThrowEdgeTest(tester).all();
        tester.finish();
    }

    void all() {
        nulls();
        casts();
        indices();
        lengths();
        divisors();
        newObjects();
        marksTogether();
        marksWhateverFlowsAre();
        whatIsAskedFirst();
        whichTry();
        whichClass();
        throughCalls();
        theRefAlone();
        methodsThatAreLeft();
        arrays();
    }

    /** A method whose locals 0 to 5 are an int and a ref by turns; the refs are null. Marks of local i are 1 << i. */
    private TaintHouse house(String items) {
        TaintHouse house = t.house(CLASSES + "class M { method f(int, ref, int, ref, int, ref) none { " + items + " } }");
        for (int i = 0; i < 7; i++) {
            house.argument(i, i, 1 << i);
        }
        return house;
    }

    /** Code that throws a fault as its last instruction; it ends so, and so does it with a try around it that catches it. */
    private void due(int fault, int marks, String code) {
        for (int flows = 0; flows < 8; flows++) {
            TaintHouse house = house("a: " + code + " ret; b: ret; try a b b "
                + Words.FIRST_CLASSES.get(fault == NULL ? CAST : NULL) + ";");
            house.flows(flows);
            t.due("run(2) of " + code, house.run(2), 3);
            int last = house.result(6) - 1;
            t.due("result(1) of " + code, house.result(1), last);
            t.due("marks of " + code + " with flows " + flows, house.result(2), marks);
            t.due("the fault of " + code, house.object(last, 0), fault);
            TaintHouse caught = house("a: " + code + " ret; b: is " + Words.FIRST_CLASSES.get(fault)
                + "; sink 7; ret; try a b b Any;");
            caught.flows(flows);
            t.due("run(2) of " + code + " with a try", caught.run(2), 0);
            t.due("event(0, 1)", caught.event(0, 1), 1);
            t.due("event(0, 2)", caught.event(0, 2), marks);
        }
    }

    private void dueNone(String code) {
        t.due("run(2) of " + code, house(code + " ret;").run(2), 0);
    }

    private void nulls() {
        t.sentence("FAULTS that are thrown: null where an OBJECT or ARRAY must be, thrown null: a NullFault;");
        due(NULL, 2, "load 1; get A x;");
        due(NULL, 2, "load 1; get A r;");
        due(NULL, 3, "load 1; load 0; put A x;");
        due(NULL, 10, "load 1; load 3; put A r;");
        due(NULL, 2, "load 1; virt A w;");
        due(NULL, 3, "load 1; load 0; iget;");
        due(NULL, 3, "load 1; load 0; rget;");
        due(NULL, 7, "load 1; load 0; load 2; iput;");
        due(NULL, 11, "load 1; load 0; load 3; rput;");
        due(NULL, 2, "load 1; length;");
        due(NULL, 2, "load 1; throw;");
        due(NULL, 0, "null; throw;");
        for (String fine : new String[] {"load 1; is A;", "load 1; as A;", "load 1; ifnull x; x:", "load 1; ifsome x; x:",
            "load 1; load 3; same x; x:", "load 1; load 3; other x; x:", "load 1; store 9;", "load 1; dup; swap; pop;"}) {
            dueNone(fine);
        }
    }

    /** The ref of a fault that was caught, with marks 1: one that has marks whatever flows are. */
    private static final String MARKED = "c: load 0; push 0; div; ret; d: store 8; ";
    private static final String CATCH = " try c d d DivideFault; a:";

    private void dueOfMarked(int fault, int marks, String code) {
        for (int flows = 0; flows < 8; flows += 7) {
            TaintHouse house = house(MARKED + code + " ret;" + CATCH);
            house.flows(flows);
            t.due("run(2) of " + code, house.run(2), 3);
            t.due("result(1) of " + code, house.result(1), 1);
            t.due("marks of " + code, house.result(2), marks);
            t.due("the fault of " + code, house.object(1, 0), fault);
            t.due("the fault that was caught", house.object(0, 0), DIVIDE);
        }
    }

    private void casts() {
        t.sentence("a ref that isn't as told above: a CastFault;");
        String[] refs = {"new C; ", "new Any; ", "push 1; ints; ", "push 1; refs; ", "new CastFault; "};
        for (String ref : refs) {
            due(CAST, 0, ref + "get A x;");
            due(CAST, 1, ref + "load 0; put A x;");
            due(CAST, 63, ref + "load 0; load 1; load 2; load 3; load 4; load 5; virt A v;");
            due(CAST, 0, ref + "virt A w;");
            due(CAST, 0, ref + "as A;");
            if (!ref.contains("ints")) {
                due(CAST, 1, ref + "load 0; iget;");
                due(CAST, 5, ref + "load 0; load 2; iput;");
            }
            if (!ref.contains("refs")) {
                due(CAST, 1, ref + "load 0; rget;");
                due(CAST, 3, ref + "load 0; load 1; rput;");
            }
            if (ref.startsWith("new")) {
                due(CAST, 0, ref + "length;");
            }
        }
        due(CAST, 0, "new A; get B x;");
        due(CAST, 0, "new A; as B;");
        dueNone("new B; get A x;");
        dueNone("new B; as A;");
        dueOfMarked(CAST, 1, "load 8; get A x;");
        dueOfMarked(CAST, 5, "load 8; load 2; put A x;");
        dueOfMarked(CAST, 1, "load 8; as NullFault;");
        dueOfMarked(CAST, 1, "load 8; length;");
        dueOfMarked(CAST, 5, "load 8; load 2; iget;");
        dueOfMarked(CAST, 21, "load 8; load 2; load 4; iput;");
        dueOfMarked(CAST, 13, "load 8; load 2; load 3; rput;");
        dueOfMarked(CAST, 63, "load 8; load 0; load 1; load 2; load 3; load 4; load 5; virt A v;");
    }

    private void indices() {
        t.sentence("an index outside: a BoundsFault;");
        int[] lengths = {0, 1, 2, 7};
        for (int length : lengths) {
            for (String index : new String[] {"- 2147483648", "- 1", String.valueOf(length), String.valueOf(length + 1),
                "2147483647"}) {
                due(BOUNDS, 16, "push " + length + "; ints; push " + index + "; mark 16; iget;");
                due(BOUNDS, 20, "push " + length + "; ints; push " + index + "; mark 16; load 2; iput;");
                due(BOUNDS, 16, "push " + length + "; refs; push " + index + "; mark 16; rget;");
                due(BOUNDS, 18, "push " + length + "; refs; push " + index + "; mark 16; load 1; rput;");
            }
            for (int index = 0; index < length; index += Math.max(1, length - 1)) {
                dueNone("push " + length + "; ints; push " + index + "; iget;");
                dueNone("push " + length + "; ints; push " + index + "; load 2; iput;");
                dueNone("push " + length + "; refs; push " + index + "; rget;");
                dueNone("push " + length + "; refs; push " + index + "; load 1; rput;");
            }
        }
        dueNone("push 2999; ints; push 2998; iget;");
        TaintHouse house = house("push 2998; ints; push 2998; iget; ret;");
        t.due("run(2) at the end of a long array", house.run(2), 3);
        t.due("its fault", house.object(1, 0), BOUNDS);
        // An array next to another one ends where its length says.
        house = house("push 2; ints; store 8; push 2; ints; pop; load 8; push 2; push 5; iput; ret;");
        t.due("run(2) with arrays next to each other", house.run(2), 3);
        t.due("slot(1, 0, 0)", house.slot(1, 0, 0), 0);
    }

    private void lengths() {
        t.sentence("a length below 0: a SizeFault;");
        for (String word : new String[] {"ints", "refs"}) {
            due(SIZE, 0, "push - 1; " + word + ";");
            due(SIZE, 9, "push - 1; mark 9; " + word + ";");
            due(SIZE, 65535, "push - 2147483648; mark 65535; " + word + ";");
            dueNone("push 0; " + word + ";");
            dueNone("push -0; " + word + ";");
            dueNone("push 1; " + word + ";");
        }
    }

    private void divisors() {
        t.sentence("div, rem by 0: a DivideFault.");
        for (String word : new String[] {"div", "rem"}) {
            for (String number : new String[] {"0", "1", "- 1", "2147483647", "- 2147483648"}) {
                due(DIVIDE, 0, "push " + number + "; push 0; " + word + ";");
                due(DIVIDE, 4, "push " + number + "; mark 4; push 0; " + word + ";");
                due(DIVIDE, 40, "push " + number + "; mark 8; push 0; mark 32; " + word + ";");
            }
            dueNone("push 0; push 1; " + word + ";");
            dueNone("push 0; push - 1; " + word + ";");
            dueNone("push - 2147483648; push - 1; " + word + ";");
        }
    }

    private void newObjects() {
        t.sentence("It is a new OBJECT;");
        String text = "class A { method f() none { new A; pop; a: push 1; push 0; div; pop; ret; b: puts A s; c: null; throw;"
            + " d: puts A q; new A; pop; push - 1; ints; ret; try a b b Any; try c d d Any; } static s ref; static q ref; }";
        TaintHouse house = t.dueRun(text, 0, 3, 4, 0);
        int[] classes = {7, DIVIDE, NULL, 7, SIZE};
        for (int i = 0; i < classes.length; i++) {
            t.due("object(" + i + ", 0)", house.object(i, 0), classes[i]);
            t.due("object(" + i + ", 1)", house.object(i, 1), 0);
            t.due("object(" + i + ", 2)", house.object(i, 2), 0);
        }
        t.due("stat(0, 0)", house.stat(0, 0), 1);
        t.due("stat(1, 0)", house.stat(1, 0), 2);
        t.due("result(6)", house.result(6), 5);
        // One of its own each time, also for the same instruction.
        String again = "class A { static s ref; method f() int { push 3; store 0; a: null; throw; b: dup; gets A s; same x;"
            + " puts A s; inc 0 - 1; load 0; ifgt a; push 7; ret; x: push 8; ret; try a b b Any; } }";
        house = t.dueRun(again, 0, 1, 7, 0);
        t.due("result(6)", house.result(6), 3);
        // What throws itself an object makes none.
        house = t.dueRun("class A { method f() none { new A; throw; } }", 0, 3, 0, 0);
        t.due("result(6)", house.result(6), 1);
    }

    private void marksTogether() {
        t.sentence("its ref has the MARKS of all that the INSTRUCTION took, together.");
        due(NULL, 12, "load 3; load 2; put A x;");
        due(NULL, 63, "load 3; load 0; load 1; load 2; load 3; load 4; load 5; virt A v;");
        due(DIVIDE, 5, "load 2; load 0; div;");
        // Not those of what lies below on the stack, of locals, fields, statics, lengths or other elements.
        due(NULL, 8, "load 4; load 5; load 3; length;");
        due(BOUNDS, 0, "push 2; mark 64; ints; push 2; iget;");
        due(BOUNDS, 0, "push 2; mark 64; refs; store 9; load 9; push 0; load 1; rput; load 9; push 5; rget;");
        due(SIZE, 0, "load 4; push - 1; ints;");
        // Nor of what stood on the stack and was taken by others.
        due(NULL, 2, "load 1; load 4; pop; virt A w;");
        due(NULL, 2, "load 1; load 4; pop; get A x;");
        due(NULL, 2, "load 1; load 4; pop; length;");
        due(NULL, 2, "load 1; load 4; pop; throw;");
        due(CAST, 0, "new C; load 4; load 2; add; pop; virt A w;");
        due(DIVIDE, 1, "load 0; push 0; load 4; pop; div;");
        due(DIVIDE, 0, "load 4; puts A s; load 4; push 1; push 0; div;");
        due(CAST, 0, "load 4; new C; as A;");
    }

    private void marksWhateverFlowsAre() {
        t.sentence("The ref of a FAULT has the MARKS of all that the INSTRUCTION took (virt: the ref and all KINDS; iput, rput:"
            + " all three; thrown null: its own), whatever FLOWS are.");
        due(NULL, 63, "load 1; load 0; load 1; load 2; load 3; load 4; load 5; virt A v;");
        due(NULL, 43, "load 1; load 0; load 1; push 2; load 3; push 4; load 5; virt A v;");
        due(CAST, 42, "new C; push 0; load 1; push 2; load 3; push 4; load 5; virt A v;");
        due(NULL, 22, "load 1; load 2; load 4; iput;");
        due(NULL, 41, "load 3; load 0; load 5; rput;");
        due(CAST, 20, "new C; load 2; load 4; iput;");
        due(CAST, 33, "new C; load 0; load 5; rput;");
        due(BOUNDS, 5, "push 1; ints; push 4; mark 4; load 0; iput;");
        due(BOUNDS, 36, "push 1; refs; push 4; mark 4; load 5; rput;");
        due(NULL, 8, "load 3; throw;");
        due(NULL, 32, "load 3; load 5; throw;");
        due(NULL, 0, "load 3; null; throw;");
    }

    private void whatIsAskedFirst() {
        t.sentence("(null is asked first, then what the ref is, then the index.)");
        for (String index : new String[] {"push - 1; ", "push 0; ", "push 99; "}) {
            due(NULL, 2, "load 1; " + index + "iget;");
            due(NULL, 2, "load 1; " + index + "push 1; iput;");
            due(NULL, 2, "load 1; " + index + "rget;");
            due(NULL, 2, "load 1; " + index + "null; rput;");
            due(CAST, 0, "push 1; refs; " + index + "iget;");
            due(CAST, 0, "push 1; refs; " + index + "push 1; iput;");
            due(CAST, 0, "push 1; ints; " + index + "rget;");
            due(CAST, 0, "push 1; ints; " + index + "null; rput;");
            due(CAST, 0, "new A; " + index + "iget;");
        }
        due(BOUNDS, 0, "push 1; ints; push 99; iget;");
        due(BOUNDS, 0, "push 1; refs; push - 1; rget;");
    }

    /** Which of the ways out of a method of M is taken: its code, with handlers x, y, z that answer 10, 20, 30. */
    private void dueWay(String body, String tries, int want) {
        String handlers = " x: pop; push 10; ret; y: pop; push 20; ret; z: pop; push 30; ret; ";
        String told = "class E : DivideFault { } class F : E { } class G : Fault { } class M { method f() int { ";
        for (String items : new String[] {body + handlers + tries, tries + body + handlers}) {
            TaintHouse house = t.house(told + items + " } }");
            t.due("run(0) of " + items, house.run(0), want == 3 ? 3 : 1);
            t.due("result(1) of " + items, house.result(1), want == 3 ? house.result(6) - 1 : want);
        }
    }

    private void whichTry() {
        t.sentence("What is thrown comes to the first try, in the order of the text, that the INSTRUCTION");
        String body = "a: push 1; b: pop; c: new E; d: throw; e: push 2; g: ret; ";
        // from and to: not ahead of from, ahead of to.
        String[] labels = {"a", "b", "c", "d", "e", "g", "x"};
        for (int from = 0; from < labels.length; from++) {
            for (int to = from + 1; to < labels.length; to++) {
                boolean lies = from <= 3 && to > 3;
                dueWay(body, "try " + labels[from] + " " + labels[to] + " x Any;", lies ? 10 : 3);
                dueWay(body, "try " + labels[from] + " " + labels[to] + " x Any; try a x y Any;", lies ? 10 : 20);
                dueWay(body, "try a x y Any; try " + labels[from] + " " + labels[to] + " x Any;", 20);
            }
        }
        dueWay(body, "try d e y Any; try d e x Any; try d e z Any;", 20);
        dueWay(body, "try a x z Any; try d e x E; try d e y Any;", 30);
        dueWay(body, "", 3);
        // The eighth one, too.
        dueWay(body, Tester.times(7, "try d e x G; ") + "try d e y Any;", 20);
        dueWay(body, Tester.times(7, "try a d x Any; ") + "try d e z Any;", 30);
        // A handler is no part of its own try, unless it lies in it.
        dueWay("a: null; throw; b: pop; null; throw; c: push 1; ret; ", "try a b b Any; try b c x Any;", 10);
        dueWay("a: null; throw; b: pop; null; throw; c: push 1; ret; ", "try a b b Any;", 3);
    }

    private void whichClass() {
        t.sentence("lies in and of whose class it is:");
        String[] classes = {"Any", "Fault", "NullFault", "BoundsFault", "SizeFault", "DivideFault", "CastFault", "E", "F", "G",
            "M"};
        String[] thrown = {"new E; throw;", "new F; throw;", "new G; throw;", "new M; throw;", "new Any; throw;", "null; throw;",
            "push 1; push 0; div; ret;", "push - 1; ints; throw;", "new G; as E; throw;", "push 0; ints; push 0; iget; ret;"};
        String[] caught = {"0,1,5,7", "0,1,5,7,8", "0,1,9", "0,10", "0", "0,1,2", "0,1,5", "0,1,4", "0,1,6", "0,1,3"};
        for (int i = 0; i < thrown.length; i++) {
            String body = "a: " + thrown[i] + " b: ";
            for (int c = 0; c < classes.length; c++) {
                boolean fits = ("," + caught[i] + ",").contains("," + c + ",");
                dueWay(body, "try a b x " + classes[c] + ";", fits ? 10 : 3);
                dueWay(body, "try a b x " + classes[c] + "; try a b y Any;", fits ? 10 : 20);
            }
        }
    }

    private void throughCalls() {
        t.sentence("(in METHODS that called: the call)");
        String told = "class M { method g() none { null; throw; } virtual v() none { null; throw; } method h() none { call M g;"
            + " ret; } method f() int { ";
        for (String call : new String[] {"call M g; ", "call M h; ", "new M; virt M v; "}) {
            String word = call.replace("new M; ", "new M; c: ").replaceFirst("^call", "c: call");
            String body = "a: push 1; b: pop; " + word + "d: push 2; e: ret; x: pop; push 10; ret; ";
            String[] labels = {"a", "b", "c", "d", "e", "x"};
            for (int from = 0; from < labels.length; from++) {
                for (int to = from + 1; to < labels.length; to++) {
                    boolean lies = from <= 2 && to > 2;
                    String text = told + body + "try " + labels[from] + " " + labels[to] + " x NullFault; } }";
                    TaintHouse house = t.house(text);
                    t.due("run(3) of " + text, house.run(3), lies ? 1 : 3);
                    t.due("result(1) of " + text, house.result(1), lies ? 10 : house.result(6) - 1);
                }
            }
        }
        // The nearest method that has a try that fits, not the first or the last one.
        String text = "class M { method a() int { p: call M b; ret; q: pop; push 1; ret; try p q q Any; }"
            + " method b() int { p: call M c; ret; q: pop; push 2; ret; try p q q @; } method c() int { p: call M d; ret; q:"
            + " pop; push 3; ret; try q r q Any; r: } method d() int { push 1; push 0; div; ret; } }";
        t.dueRun(text.replace("@", "DivideFault"), 0, 1, 2, 0);
        t.dueRun(text.replace("@", "NullFault"), 0, 1, 1, 0);
        t.dueRun(text.replace("@", "Any"), 2, 3, 0, 0);
        // Through as many methods as there may be.
        String deep = "class M { method f(int) int { a: inc 0 - 1; load 0; ifgt x; push 1; source 3; div; ret; x: load 0;"
            + " call M f; ret; b: ret; try a b c NullFault; c: pop; push 1; ret; } method g() int { a: push 23; call M f; ret;"
            + " b: is DivideFault; ret; try a b b Fault; } }";
        TaintHouse house = t.house(deep);
        t.dueRun(house, deep, 1, 1, 1, 8);
        t.due("result(6)", house.result(6), 1);
    }

    private void theRefAlone() {
        t.sentence("the STACK is the ref alone, with its MARKS.");
        // Behind fifteen values and a null the handler has room for fifteen more; locals are as they were.
        String text = "class A { method f(int, ref) int { push 7; store 9; a: inc 0 5; " + Tester.times(15, "push 1; ")
            + "load 1; throw; b: is NullFault; "
            + Tester.times(15, "push 1; ") + Tester.times(15, "add; ") + "load 0; mul; load 9; add; ret; try a b b Any; } }";
        TaintHouse house = t.house(text);
        house.argument(0, 1, 4);
        house.argument(1, 0, 64);
        t.dueRun(house, text, 0, 1, 16 * 6 + 7, 68);
        // Nothing is below the ref: there is room for a call with what the handler pushed, and for as many rounds as one likes.
        String room = "class A { method g(int) int { " + Tester.times(15, "push 50; ") + "store 15; store 14; store 13; store"
            + " 12; store 11; store 10; store 9; store 8; store 7; store 6; store 5; store 4; store 3; store 2; store 1;"
            + " load 0; ret; } method f() int { push 100; store 0; a: "
            + Tester.times(15, "push 1; ") + "null; throw; b: is NullFault; " + Tester.times(14, "push 1; ")
            + "push 7; call A g; "
            + Tester.times(15, "add; ") + "store 1; inc 0 - 1; load 0; ifgt a; load 1; ret; try a b b Any; } }";
        t.dueRun(room, 1, 1, 22, 0);
        String full = "class A { method g() none { " + Tester.times(16, "push 50; ") + Tester.times(16, "store %; ")
            + "ret; } method f() int { a: "
            + Tester.times(15, "push 1; ") + "null; throw; b: is NullFault; " + Tester.times(15, "push %; ") + "call A g; "
            + Tester.times(15, "add; ") + "ret; try a b b Any; } }";
        t.dueRun(full, 1, 1, 106, 0);
        // An object that is thrown keeps the marks that its ref has, and is the same one.
        String same = "class A { static s ref; method f() int { a: source 2; push 0; div; ret; b: dup; puts A s; c: throw; d:"
            + " dup; gets A s; same x; push 1; ret; x: is Any; ret; try a b b Any; try c d d Any; } method g() int { a: new A;"
            + " dup; puts A s; throw; b: dup; gets A s; other x; is A; ret; x: push 5; ret; try a b b Any; } }";
        house = t.house(same);
        t.dueRun(house, same, 0, 1, 1, 4);
        t.dueRun(house, same, 1, 1, 1, 0);
        // Values of methods that called are there again where the call's method goes on; those below the call are gone.
        t.dueRun("class A { method g() none { push 8; push 9; null; throw; } method h() int { push 5; a: call A g; b: ret; c:"
            + " pop; push 6; ret; try a b c Any; } method f() int { push 100; call A h; add; ret; } }", 2, 1, 106, 0);
    }

    private void methodsThatAreLeft() {
        t.sentence("Where there is none the METHOD is left.");
        String text = "class A { method f() ref { a: call A g; b: ret; try a b c DivideFault; c: ret; }"
            + " method g() ref { push 1; push 2; source 5; ints; throw; } method h() none { null; throw; } }";
        TaintHouse house = t.house(text);
        house.input(5, 3);
        t.dueRun(house, text, 0, 3, 0, 0);
        t.due("object(0, 0)", house.object(0, 0), -2);
        t.dueRun(house, text, 1, 3, 0, 0);
        t.dueRun(house, text, 2, 3, 0, 0);
        t.due("object(0, 0)", house.object(0, 0), NULL);
        house.input(5, -3);
        t.dueRun(house, text, 0, 3, 0, 32);
        t.due("object(0, 0)", house.object(0, 0), SIZE);
        // Tries of other methods, and of texts that were read ahead of this one, are none of it.
        String others = "class A { method f() int { a: push 1; push 0; div; ret; b: pop; push 5; ret; @ }"
            + " method g() int { a: push 1; push 0; div; ret; b: pop; push 5; ret; try a b b Any; } }";
        TaintHouse used = new TaintHouse();
        for (int round = 0; round < 2; round++) {
            t.due("text()", Tester.read(used, others.replace("@", Tester.times(8, "try a b b Any; "))), 2);
            t.dueRun(used, others, 0, 1, 5, 0);
        }
        for (int round = 0; round < 2; round++) {
            t.due("text()", Tester.read(used, others.replace("@", "")), 2);
            t.dueRun(used, others, 0, 3, 0, 0);
            t.due("text()", Tester.read(used, others.replace("@", "try a b b NullFault;").replace("try a b b Any;", "")), 2);
            t.dueRun(used, others, 0, 3, 0, 0);
            t.dueRun(used, others, 1, 3, 0, 0);
        }
        // A method that is left counts no more among those within one another.
        String often = "class A { method f() int { push 100; store 0; a: push 20; call A g; b: push 1; ret; c: pop; inc 0 - 1;"
            + " load 0; ifgt a; push 7; ret; try a b c Any; } method g(int) none { inc 0 - 1; load 0; ifgt x; null; throw; x:"
            + " load 0; call A g; ret; } }";
        t.dueRun(often, 0, 1, 7, 0);
    }

    private void arrays() {
        t.sentence("A try of Any catches ARRAYS, too.");
        for (String word : new String[] {"ints", "refs"}) {
            String body = "a: push 3; " + word + "; throw; b: ";
            dueWay(body, "try a b y Any;", 20);
            for (String other : new String[] {"Fault", "NullFault", "BoundsFault", "SizeFault", "DivideFault", "CastFault", "E",
                "M"}) {
                dueWay(body, "try a b x " + other + ";", 3);
                dueWay(body, "try a b x " + other + "; try a b z Any;", 30);
            }
        }
        t.dueRun("class A { method f() int { a: push 3; ints; throw; b: length; ret; try a b b Any; } }", 0, 1, 3, 0);
    }
}
