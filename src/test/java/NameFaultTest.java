/** Promises 4 and 5: faults 1 to 4, the first by its place, of one place the least kind. */
public final class NameFaultTest {
    private static final Tester T = new Tester();

    public static void main(String[] args) {
        toldAgain();
        classesThatAreNone();
        membersThatAreNone();
        labelsThatAreNone();
        otherKinds();
        backwardTries();
        firstByPlace();
        firstOfANameCounts();
        changesNothing();
        T.finish();
    }

    private static String code(String items) {
        return "class A { method f() none { " + items + " } }";
    }

    private static void toldAgain() {
        T.dueFault(1, "class A { } class ~A { }");
        T.dueFault(1, "class A { } class B { } class ~A { } class B { }");
        for (String first : Words.FIRST_CLASSES) {
            T.dueFault(1, "class A { } class ~" + first + " { }");
        }
        String[] members = {"field x int; ", "static x int; ", "method x() none { ret; } ", "virtual x() none { ret; } "};
        for (String one : members) {
            for (String two : members) {
                T.dueFault(1, "class A { " + one + two.replace("x", "~x") + "}");
                T.dueFault(1, "class A { " + one + "field y int; " + two.replace("x", "~x") + "}");
                T.dueRight("class A { " + one + "} class B : A { " + two + "}", (one + two).split("none").length - 1);
            }
        }
        T.dueFault(1, code("x: x0: ~x: x: ret;"));
        T.dueFault(1, code("x: ret; ~x:"));
        T.dueRight("class A { method f() none { x: ret; } method g() none { x: f: A: ret; } }", 2);
        T.dueRight("class A { field A int; } class B { field A ref; method B() none { ret; } }", 1);
    }

    private static void classesThatAreNone() {
        T.dueFault(2, "class A : ~B { }");
        T.dueFault(2, "class A : ~B { } class B { }");
        T.dueFault(2, "class A : ~A { }");
        T.dueRight("class A : CastFault { } class B : A { } class C : A { }", 0);
        for (String word : Words.OF_CLASS) {
            T.dueFault(2, code("ret; " + word + " ~B;"));
            T.dueRight(code("ret; " + word + " B;") + " class B { }", 1);
        }
        for (String word : Words.OF_MEMBER) {
            T.dueFault(2, code("ret; " + word + " ~B x;"));
            T.dueFault(2, code("ret; " + word + " ~B x;") + " class C { field B int; }");
        }
        T.dueFault(2, code("a: ret; b: pop; ret; try a b b ~B;"));
        T.dueRight(code("a: ret; b: pop; ret; try a b b B;") + " class B { }", 1);
    }

    private static void membersThatAreNone() {
        String text = code("ret; # B m;") + " class Z { field f int; static s int; method m() none { ret; }"
            + " virtual v() none { ret; } } class B : Z { }";
        String[] words = {"get", "put", "gets", "puts", "call", "virt"};
        String[] fitting = {"f", "f", "s", "s", "m", "v"};
        for (int i = 0; i < words.length; i++) {
            for (String name : new String[] {"f", "s", "m", "v"}) {
                for (String cls : new String[] {"Z", "B"}) {
                    String told = text.replace("# B m", words[i] + " " + cls + " ~" + name);
                    if (fitting[i].equals(name)) {
                        T.dueRight(told.replace("~", ""), 3);
                    } else {
                        T.dueFault(2, told);
                    }
                }
            }
            T.dueFault(2, text.replace("# B m", words[i] + " Any ~" + fitting[i]));
            T.dueFault(2, text.replace("# B m", words[i] + " A ~" + fitting[i] + "x"));
        }
        // A field that stands in a class below is none of the class above.
        T.dueFault(2, "class A { method f() none { ret; get A ~x; } } class B : A { field x int; }");
    }

    private static void labelsThatAreNone() {
        for (String word : Words.JUMPS) {
            T.dueFault(2, code("x: ret; " + word + " ~y;"));
        }
        T.dueFault(2, "class A { method f() none { x: ret; } method g() none { goto ~x; } }");
        T.dueFault(2, "class A { method f() none { goto ~x; } method g() none { x: ret; } }");
        T.dueRight(code("goto x; x: ret;"), 1);
        T.dueFault(2, code("a: ret; b: pop; ret; try ~x b b Any;"));
        T.dueFault(2, code("a: ret; b: pop; ret; try a ~x b Any;"));
        T.dueFault(2, code("a: ret; b: pop; ret; try a b ~x Any;"));
        // A try with a label that is none has no fault 4.
        T.dueFault(2, code("a: ret; b: pop; ret; try b a ~x Any;"));
        T.dueFault(2, code("a: ret; b: pop; ret; try b ~x x Any;"));
    }

    private static void otherKinds() {
        String body = " { x: goto x; } ";
        String above = "class A { virtual v(int, ref) int" + body + "} class B : A { } ";
        T.dueRight(above + "class C : B { virtual v(int, ref) int" + body + "}", 2);
        String[] other = {"(ref, int) int", "(int) int", "(int, ref) none", "(int, ref) ref", "(int, ref, int) int",
            "() int", "(int, int) int", "(ref, ref) int"};
        for (String kinds : other) {
            T.dueFault(3, above + "class C : B { virtual ~v" + kinds + body + "}");
            T.dueFault(3, above + "class C : A { virtual ~v" + kinds + body + "}");
            T.dueRight(above + "class C { virtual v" + kinds + body + "}", 2);
            T.dueRight(above + "class C : B { method v" + kinds + body + "}", 2);
        }
        // The nearest virtual above counts, past a method of the same name.
        T.dueFault(3, "class A { virtual v() int { push 1; ret; } } class B : A { method v() none { ret; } }"
            + " class C : B { virtual ~v() none { ret; } }");
        T.dueFault(3, "class A { virtual v() int { push 1; ret; } } class B : A { virtual ~v() none { ret; } }"
            + " class C : B { virtual v() none { ret; } }");
    }

    private static void backwardTries() {
        T.dueFault(4, code("a: ret; b: pop; ret; try ~b a b Any;"));
        T.dueFault(4, code("a: ret; b: pop; ret; try ~a a b Any;"));
        T.dueFault(4, code("a: b: ret; c: pop; ret; try ~a b c Any;"));
        T.dueFault(4, code("a: b: ret; c: pop; ret; try ~b a c Any;"));
        T.dueFault(4, code("try ~b a b Any; a: ret; b: pop; ret;"));
        T.dueFault(4, code("a: ret; b: try ~b b a Any;"));
        T.dueFault(4, code("a: ret; b: pop; ret; try ~b a b None;"));
        T.dueRight(code("a: ret; b: pop; ret; z: try a b b Any; try b z b Any;"), 1);
    }

    private static void firstByPlace() {
        T.dueFault(2, "class A { method f() none { goto ~x; y: y: } }");
        T.dueFault(1, "class A { method f() none { y: ~y: goto x; } }");
        T.dueFault(1, "class A { virtual v() none { ret; } } class B : A { virtual v() none { ret; }"
            + " virtual ~v() int { ret; } }");
        T.dueFault(2, "class A : ~Q { } class A { }");
        T.dueFault(1, "class A { } class ~A : Q { }");
        T.dueFault(4, "class A { method f() none { a: ret; b: try ~b a a Q; } } class A { }");
        T.dueFault(2, "class A { method f() none { ret; new ~Q; } field f int; }");
        T.dueFault(3, "class A { virtual v() none { ret; } } class B : A { virtual ~v() int { ret; goto q; } }");
        // Code is looked at only if there is none of these.
        T.dueFault(2, "class A { method f() none { add; } method g() none { goto ~x; } }");
        T.dueFault(1, "class A { method f() none { add; } } class ~A { }");
    }

    private static void firstOfANameCounts() {
        String user = "class U { method f() none { ret; get B ~x; } } ";
        T.dueFault(2, user + "class B { } class B { field x int; }");
        T.dueFault(1, user.replace("~", "") + "class B { field x int; } class ~B { }");
        T.dueFault(1, "class U { method f() none { ret; gets B x; } } class B { field x int; static ~x ref; }");
        T.dueFault(1, "class U { method f() none { ret; virt B x; } } class B { method x() none { ret; }"
            + " virtual ~x() none { ret; } }");
        // A class whose parent is none or stands below has Any above it.
        T.dueFault(2, "class U { method f() none { ret; get B ~x; } } class B : C { } class C { field x int; }");
        T.dueFault(2, "class U { method f() none { ret; get B x; } } class B : ~C { field x int; } class C { }");
        T.dueFault(2, "class A { virtual v() none { ret; } } class B : ~Q { virtual v() int { ret; } }");
        // Of a virtual told again the first one is that which others below are compared with.
        T.dueFault(1, "class A { virtual v() none { ret; } virtual ~v() int { ret; } } class B : A {"
            + " virtual v() none { ret; } }");
        T.dueFault(4, "class A { method f() none { a: ret; b: ret; try ~b a b Any; b: a: } }");
        T.dueFault(1, "class A { method f() none { a: ret; b: ret; ~a: ret; try b a b Any; } }");
    }

    private static void changesNothing() {
        TaintHouse house = T.house("class A { field x int; static s int; method f() int { push 3; puts A s; push 4; ret; } }");
        house.run(0);
        T.due("text() with a fault", Tester.read(house, "class A { } class B { } class B { }"), -5001);
        T.due("place()", house.place(), 30);
        T.due("place()", house.place(), 30);
        T.due("count(0)", house.count(0), 8);
        T.due("count(1)", house.count(1), 1);
        T.due("count(2)", house.count(2), 1);
        T.due("type(7, 1)", house.type(7, 1), 1);
        T.due("type(8, 1)", house.type(8, 1), -1);
        T.due("method(0, 4)", house.method(0, 4), 4);
        T.due("result(1)", house.result(1), 4);
        T.due("stat(0, 0)", house.stat(0, 0), 3);
        T.due("run(0)", house.run(0), 1);
    }
}
