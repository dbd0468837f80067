import java.util.List;

/** Faults 1 to 4, sentence by sentence: names told again and names that are none, virtuals and tries that don't fit. */
public final class FaultEdgeTest {
    private final Tester t;

    FaultEdgeTest(Tester tester) {
        t = tester;
    }

    public static void main(String[] args) {
        Tester tester = new Tester();
        new FaultEdgeTest(tester).all();
        tester.finish();
    }

    void all() {
        firstByPlace();
        leastKindOfOnePlace();
        toldAgain();
        firstClassesToldAgain();
        membersToldAgain();
        parents();
        classesAnywhere();
        fieldsAndStatics();
        methodsAndVirtuals();
        labels();
        virtualsOfOtherKinds();
        nearestVirtual();
        triesThatGoBack();
        triesAtOnePlace();
        triesWithoutLabels();
        nearestRoutines();
        nearestFieldsAndStatics();
        firstOfANameCounts();
        parentsThatAreNone();
        places();
        changesNothing();
    }

    private static String code(String items) {
        return "class A { method f() none { " + items + " } }";
    }

    private static final String[] ONE_OF_EACH = {
        "class P { field x int; field ~x int; } ",
        "class Q { method f() none { ret; new ~Zz; } } ",
        "class R { virtual v() none { ret; } } class S : R { virtual ~v() int { push 1; ret; } } ",
        "class T { method f() none { a: ret; b: ret; try ~b a b Any; } } ",
        "class U { method f() none { ~add; } } "};

    private void firstByPlace() {
        t.sentence("FAULTS, the first by its place,");
        for (int one = 0; one < 5; one++) {
            t.dueFault(one + 1, ONE_OF_EACH[one]);
            for (int two = 0; two < 5; two++) {
                if (one != two) {
                    boolean second = one == 4;
                    String first = second ? ONE_OF_EACH[one].replace("~", "") : ONE_OF_EACH[one];
                    String last = second ? ONE_OF_EACH[two] : ONE_OF_EACH[two].replace("~", "");
                    t.dueFault(second ? two + 1 : one + 1, first + last);
                }
            }
        }
        // Within one class and one method, too, and whatever is found first.
        t.dueFault(2, code("goto ~q; y: y:"));
        t.dueFault(1, code("y: ~y: goto q;"));
        t.dueFault(2, code("y: ret; try ~q y y Z; y: new Z;"));
        t.dueFault(4, code("y: z: ret; try ~z y y Z; y: new Z;"));
        t.dueFault(2, code("ret; call ~Z f; call Z g;"));
        t.dueFault(2, "class A : ~Z { field x int; field x int; } class A { }");
        t.dueFault(1, "class A { field x int; field ~x int; } class A : Z { }");
        t.dueFault(1, "class A { } class ~A : Z { }");
        t.dueFault(2, "class A { } class B : ~Z { } class A { }");
        t.dueFault(3, "class A { virtual v() none { ret; } } class B : A { virtual ~v(int) none { goto q; } field v int; }");
        t.dueFault(2, "class A { virtual v() none { goto ~q; } } class B : A { virtual v(int) none { ret; } }");
        // WRONG comes ahead of all of them.
        t.dueWrong("class A { } class A { } class B : Z { } ~}");
    }

    private void leastKindOfOnePlace() {
        t.sentence("of one place the least kind:");
        t.dueFault(1, "class A { virtual v() none { ret; } } class B : A { field v int; virtual ~v() int { push 1; ret; } }");
        t.dueFault(1, "class A { virtual v() none { ret; } } class B : A { virtual v() none { ret; }"
            + " virtual ~v(int) none { ret; } }");
        t.dueFault(1, "class A { virtual v() none { ret; } } class B : A { method v() none { ret; } virtual ~v() ref { null;"
            + " ret; } }");
        t.dueFault(1, "class A { virtual v() none { ret; } } class B : A { static v int; virtual ~v(ref) none { ret; } }");
    }

    private void toldAgain() {
        t.sentence("1 a NAME told again: a class; in a class a MEMBER; in a METHOD a LABEL (at the second one).");
        t.dueFault(1, "class A { } class ~A { }");
        t.dueFault(1, "class A { } class B { } class ~A { } class A { }");
        t.dueFault(1, "class A { } class B : A { } class ~B : A { }");
        t.dueFault(1, Tester.times(11, "class A% { } ") + "class ~A0 { }");
        t.dueFault(1, Tester.times(11, "class A% { } ") + "class ~A10 { }");
        t.dueRight("class A { } class a { } class AA { } class A1 { }", 0);
        t.dueFault(1, "class A { " + Tester.times(7, "field x% int; ") + "field ~x0 int; }");
        t.dueFault(1, "class A { " + Tester.times(15, "static x% int; ") + "static ~x14 int; }");
        t.dueFault(1, "class A { " + Tester.times(23, "method x%() none { ret; } ") + "method ~x22() none { ret; } }");
        t.dueFault(1, "class A { field x int; field ~x int; field x int; }");
        t.dueFault(1, code("x: ret; ~x:"));
        t.dueFault(1, code("x: ~x: x: ret;"));
        t.dueFault(1, code("x: y: ret; ret; ~y: x:"));
        t.dueRight("class A { method f() none { x: ret; } method g() none { x: ret; } }", 2);
        t.dueRight("class A { field A int; method f() none { f: A: x: ret; } method x() none { x: f: ret; } }", 2);
        t.dueRight("class A { field x int; } class B { field x int; static y int; } class C { method y() none { ret; } }", 1);
        // Names that differ in one sign alone, in its case, or in that there is none, are different ones.
        String name = "abcdefghijkl";
        for (int i = 0; i < 12; i++) {
            String ahead = name.substring(0, i);
            String behind = name.substring(i + 1);
            for (String sign : new String[] {"z", i == 0 ? "y" : "9", name.substring(i, i + 1).toUpperCase(), ""}) {
                t.dueRight("class A { field " + name + " int; field " + ahead + sign + behind + " int; }", 0);
            }
        }
        for (int i = 1; i <= 12; i++) {
            String one = name.substring(0, i);
            t.dueFault(1, "class A { field " + one + " int; field ~" + one + " int; }");
        }
    }

    private void firstClassesToldAgain() {
        t.sentence("Any to CastFault told again: FAULT 1.");
        for (String name : Words.FIRST_CLASSES) {
            t.dueFault(1, "class ~" + name + " { }");
            t.dueFault(1, "class A { } class ~" + name + " : A { }");
            t.dueFault(1, "class ~" + name + " : " + name + " { }");
            t.dueRight("class " + name + "x { field " + name + " int; method f() none { " + name + ": ret; } }", 1);
        }
    }

    private void membersToldAgain() {
        t.sentence("MEMBERS of all sorts of one class have different NAMES; those of classes above may be told again.");
        String[] members = {"field x int; ", "static x ref; ", "method x() none { ret; } ", "virtual x() none { ret; } "};
        for (String one : members) {
            for (String two : members) {
                int methods = (one + two).split("none", -1).length - 1;
                t.dueFault(1, "class A { " + one + two.replace("x", "~x") + "}");
                t.dueFault(1, "class A { " + one + "field y int; method z() none { x: ret; } " + two.replace("x", "~x") + "}");
                t.dueRight("class A { " + one + "} class B : A { " + two + "}", methods);
                t.dueRight("class A { " + one + "} class B : A { } class C : B { " + two + "}", methods);
                t.dueRight("class A { " + one + two.replace("x", "y") + "}", methods);
            }
        }
    }

    private void parents() {
        t.sentence("2 a NAME that is none: as a PARENT a class that stands above;");
        t.dueFault(2, "class A : ~A { }");
        t.dueFault(2, "class A : ~B { }");
        t.dueFault(2, "class A : ~B { } class B { }");
        t.dueFault(2, "class A { } class B : ~C { } class C : A { }");
        t.dueFault(2, "class A { field x int; } class B : ~x { }");
        t.dueRight("class A { } class B : A { }", 0);
        t.dueRight("class A { } class B { } class C : A { } class D : B { } class E : C { }", 0);
        for (String name : Words.FIRST_CLASSES) {
            t.dueRight("class A : " + name + " { }", 0);
        }
    }

    private void classesAnywhere() {
        t.sentence("a class, anywhere;");
        String[] users = {"new @;", "is @;", "as @;"};
        String[] members = {"get @ x;", "put @ x;", "gets @ s;", "puts @ s;", "call @ m;", "virt @ v;"};
        String all = "{ field x int; static s int; method m() none { ret; } virtual v() none { ret; } } ";
        for (String user : users) {
            t.dueFault(2, code("ret; " + user.replace("@", "~B")));
            t.dueRight(code("ret; " + user.replace("@", "B")) + "class B { }", 1);
            t.dueRight("class B { } " + code("ret; " + user.replace("@", "B")), 1);
            t.dueRight(code("ret; " + user.replace("@", "A")), 1);
            t.dueRight(code("ret; " + user.replace("@", "CastFault")), 1);
        }
        for (String user : members) {
            t.dueFault(2, code("ret; " + user.replace("@", "~B")));
            t.dueRight(code("ret; " + user.replace("@", "B")) + "class B " + all, 3);
            t.dueRight("class B " + all + code("ret; " + user.replace("@", "B")), 3);
        }
        t.dueFault(2, code("a: ret; b: pop; ret; try a b b ~B;"));
        t.dueRight(code("a: ret; b: pop; ret; try a b b B;") + "class B { }", 1);
        t.dueRight(code("a: ret; b: pop; ret; try a b b A; try a b b NullFault;"), 1);
        // A name of a member or a label is none of a class.
        t.dueFault(2, "class A { field B int; method f() none { B: ret; new ~B; } }");
    }

    private static final String MEMBERS = "class Z { field x int; static s int; method m() none { ret; }"
        + " virtual v() none { ret; } } class Y : Z { } class W : Y { field y int; static u int; method n() none { ret; }"
        + " virtual w() none { ret; } } ";

    /** A member's name is right in the classes that are told, and a fault in the others. */
    private void ofClasses(String word, String name, String... classes) {
        for (String one : new String[] {"Any", "Z", "Y", "W", "A"}) {
            boolean has = List.of(classes).contains(one);
            String user = code("ret; " + word + " " + one + " ~" + name + ";");
            for (String text : new String[] {MEMBERS + user, user + MEMBERS}) {
                if (has) {
                    t.dueRight(text.replace("~", ""), 5);
                } else {
                    t.dueFault(2, text);
                }
            }
        }
    }

    private void fieldsAndStatics() {
        t.sentence("a field, static of the class or of one above it;");
        for (String word : new String[] {"get", "put"}) {
            ofClasses(word, "x", "Z", "Y", "W");
            ofClasses(word, "y", "W");
            for (String other : new String[] {"s", "u", "m", "n", "v", "w", "q", "Z", "Any"}) {
                ofClasses(word, other);
            }
        }
        for (String word : new String[] {"gets", "puts"}) {
            ofClasses(word, "s", "Z", "Y", "W");
            ofClasses(word, "u", "W");
            for (String other : new String[] {"x", "y", "m", "n", "v", "w", "q"}) {
                ofClasses(word, other);
            }
        }
    }

    private void methodsAndVirtuals() {
        t.sentence("a METHOD likewise (for call a method, for virt a virtual);");
        ofClasses("call", "m", "Z", "Y", "W");
        ofClasses("call", "n", "W");
        ofClasses("call", "f", "A");
        ofClasses("virt", "v", "Z", "Y", "W");
        ofClasses("virt", "w", "W");
        for (String other : new String[] {"v", "w", "x", "s", "q"}) {
            ofClasses("call", other);
        }
        for (String other : new String[] {"m", "n", "f", "x", "s", "q"}) {
            ofClasses("virt", other);
        }
    }

    private void labels() {
        t.sentence("a LABEL of the METHOD (at it; the whole text is looked at, what stands below too).");
        for (String word : Words.JUMPS) {
            t.dueFault(2, code("x: ret; " + word + " ~y;"));
            t.dueRight(code("ret; " + word + " x; x: ret;"), 1);
            t.dueRight(code("x: ret; " + word + " x;"), 1);
            t.dueRight(code("ret; " + word + " x; x:"), 1);
            t.dueFault(2, "class A { method g() none { x: ret; } method f() none { ret; " + word + " ~x; } }");
            t.dueFault(2, "class A { method f() none { ret; " + word + " ~x; } method g() none { x: ret; } }");
            t.dueFault(2, "class A { field x int; method x2() none { ret; " + word + " ~A; } }");
        }
        for (String row : new String[] {"~q b b", "a ~q b", "a b ~q"}) {
            t.dueFault(2, code("a: ret; b: pop; ret; try " + row + " Any;"));
            t.dueFault(2, code("try " + row + " Any; a: ret; b: pop; ret;"));
        }
        t.dueRight(code("try a b b Any; a: ret; b: pop; ret;"), 1);
        t.dueFault(2, "class A { method f() none { a: ret; b: ret; } method g() none { ret; try ~a b b Any; } }");
        t.dueFault(2, code("ret; x: goto ~X;"));
    }

    private void virtualsOfOtherKinds() {
        t.sentence("3 a virtual whose NAME a virtual of a class above has, but with other KINDS or another RESULT (at its NAME).");
        String[] heads = {"() none", "() int", "() ref", "(int) none", "(ref) none", "(int, int) none", "(int, ref) none",
            "(ref, int) none", "(int, int, int, int, int, int) none", "(int, int, int, int, int, ref) none",
            "(int, int, int, int, int) none", "(ref, int, int, int, int, int) none"};
        String body = " { x: goto x; } ";
        for (String one : heads) {
            for (String two : heads) {
                String above = "class A { virtual v" + one + body + "} class M : A { } ";
                for (String parent : new String[] {"A", "M"}) {
                    String below = "class B : " + parent + " { virtual ~v" + two + body + "}";
                    if (one.equals(two)) {
                        t.dueRight(above + below.replace("~", ""), 2);
                    } else {
                        t.dueFault(3, above + below);
                    }
                    t.dueRight(above + "class B : " + parent + " { method v" + two + body + "}", 2);
                }
                t.dueRight(above + "class B { virtual v" + two + body + "}", 2);
                t.dueRight(above + "class B : A { virtual w" + two + body + "}", 2);
                t.dueRight(above.replace("virtual", "method") + "class B : A { virtual v" + two + body + "}", 2);
            }
        }
    }

    private void nearestVirtual() {
        t.sentence("FAULT 3 is against the nearest virtual above.");
        String a = "class A { virtual v() int { push 1; ret; } } ";
        // Methods, fields and statics of the name between are no virtuals.
        for (String between : new String[] {"", "method v() none { ret; }", "field v int;", "static v ref;"}) {
            t.dueFault(3, a + "class B : A { " + between + " } class C : B { virtual ~v() none { ret; } }");
            t.dueRight(a + "class B : A { " + between + " } class C : B { virtual v() int { push 2; ret; } }",
                between.startsWith("method") ? 3 : 2);
        }
        // A virtual between is the nearest: it has the fault, not the one below that is as it is.
        t.dueFault(3, a + "class B : A { virtual ~v() none { ret; } } class C : B { virtual v() none { ret; } }");
        t.dueFault(3, a + "class B : A { virtual v() int { push 2; ret; } } class C : B { virtual ~v() none { ret; } }");
    }

    private void triesThatGoBack() {
        t.sentence("4 a try whose second LABEL isn't behind the first one (at the first NAME).");
        t.dueRight(code("a: ret; b: pop; ret; try a b b Any;"), 1);
        t.dueFault(4, code("a: ret; b: pop; ret; try ~b a b Any;"));
        t.dueFault(4, code("try ~b a b Any; a: ret; b: pop; ret;"));
        t.dueFault(4, code("a: ret; b: pop; ret; c: try ~c a b Any;"));
        t.dueFault(4, code("a: ret; b: pop; ret; c: try ~c b b Any;"));
        t.dueRight(code("a: ret; b: pop; ret; c: try b c b Any;"), 1);
        t.dueFault(4, code("a: ret; b: pop; ret; try a b b Any; try ~b a b Any; try b a b Any;"));
        // The third label may stand anywhere.
        t.dueRight(code("goto a; c: pop; ret; a: ret; b: try a b c Any;"), 1);
        t.dueRight(code("goto a; a: x: ret; b: pop; ret; try x b b Any;"), 1);
        // A class that is none stands behind the first name.
        t.dueFault(4, code("a: ret; b: pop; ret; try ~b a b Z;"));
    }

    private void triesAtOnePlace() {
        t.sentence("The second LABEL of a try at the place of the first one is FAULT 4, too;");
        t.dueFault(4, code("a: ret; b: pop; ret; try ~a a b Any;"));
        t.dueFault(4, code("a: c: ret; b: pop; ret; try ~a c b Any;"));
        t.dueFault(4, code("a: c: ret; b: pop; ret; try ~c a b Any;"));
        t.dueFault(4, code("a: try ~a c b Any; c: ret; b: pop; ret;"));
        t.dueFault(4, code("ret; b: pop; ret; a: c: try ~a c b Any;"));
        t.dueFault(4, code("ret; b: pop; ret; a: try ~a a b Any;"));
        t.dueRight(code("a: ret; c: goto c; b: pop; ret; try a c b Any; try c b b Any;"), 1);
    }

    private void triesWithoutLabels() {
        t.sentence("a try with a LABEL that is none has FAULT 2 alone.");
        String items = "a: ret; b: pop; ret; ";
        t.dueFault(2, code(items + "try ~q a b Any;"));
        t.dueFault(2, code(items + "try b ~q b Any;"));
        t.dueFault(2, code(items + "try b a ~q Any;"));
        t.dueFault(2, code(items + "try a a ~q Any;"));
        t.dueFault(2, code(items + "try ~q q q Z;"));
        t.dueFault(2, code(items + "try b a ~q Z;"));
    }

    private void nearestRoutines() {
        t.sentence("call goes to the nearest method of this NAME (class, then above), virt to the nearest virtual,"
            + " whatever else has it.");
        String top = "class A { method g() int { push 1; ret; } virtual v() int { push 11; ret; } } ";
        String[] between = {"", "field g int; field v int;", "static g int; static v ref;",
            "virtual g() int { push 8; ret; } method v() int { push 9; ret; }"};
        for (String own : between) {
            int more = own.contains("virtual") ? 2 : 0;
            String text = top + "class B : A { " + own + " } class C : B { } class M { method a() int { call B g; ret; }"
                + " method b() int { call C g; ret; } method c() int { new B; virt B v; ret; } method d() int { new C;"
                + " virt A v; ret; } }";
            TaintHouse house = t.house(text);
            int[] want = {1, 1, 11, 11};
            for (int i = 0; i < 4; i++) {
                t.dueRun(house, text, 2 + more + i, 1, want[i], 0);
            }
        }
        String below = top + "class B : A { method g() int { push 2; ret; } virtual v() int { push 12; ret; } } class C : B { }"
            + " class M { method a() int { call A g; ret; } method b() int { call B g; ret; } method c() int { call C g; ret; }"
            + " method d() int { new A; virt A v; ret; } method e() int { new C; virt A v; ret; } method f() int { new C;"
            + " virt C v; ret; } }";
        TaintHouse house = t.house(below);
        int[] want = {1, 2, 2, 11, 12, 12};
        for (int i = 0; i < want.length; i++) {
            t.dueRun(house, below, 4 + i, 1, want[i], 0);
        }
        // The kinds that are asked for are those of the nearest one, too.
        t.dueFault(5, "class A { method g() int { push 1; ret; } } class B : A { method g(int) int { load 0; ret; }"
            + " method f() int { ~call B g; ret; } }");
        t.dueRight("class A { method g() int { push 1; ret; } } class B : A { virtual g(int) int { load 1; ret; }"
            + " method f() int { call B g; ret; } }", 3);
    }

    private void nearestFieldsAndStatics() {
        t.sentence("get, put go to the nearest field, gets, puts to the nearest static of this NAME (class, then above),"
            + " whatever else has it.");
        String[] between = {"", "static x ref; field s ref;", "method x() none { ret; } method s() none { ret; }",
            "virtual x() none { ret; } virtual s() none { ret; }"};
        for (String own : between) {
            int more = own.contains("none") ? 2 : 0;
            String text = "class A { field x int; static s int; } class B : A { " + own
                + " } class C : B { } class M { method f() int {"
                + " push 5; puts C s; new C; dup; push 6; put C x; get B x; push 10; mul; gets B s; add; ret; } }";
            TaintHouse house = t.dueRun(text, more, 1, 65, 0);
            t.due("slot(0, 0, 0)", house.slot(0, 0, 0), 6);
            t.due("stat(0, 0)", house.stat(0, 0), 5);
        }
        String text = "class A { field x int; static s int; } class B : A { field x int; static s int; } class C : B { }"
            + " class M { method f() none { push 1; puts A s; push 2; puts B s; new C; store 0; load 0; push 3; put A x;"
            + " load 0; push 4; put B x; ret; } method g() none { push 5; puts C s; new C; push 6; put C x; ret; } }";
        TaintHouse house = t.house(text);
        int[][] want = {{1, 2, 3, 4}, {0, 5, 0, 6}};
        for (int m = 0; m < 2; m++) {
            t.due("run(" + m + ")", house.run(m), 0);
            t.due("stat(0, 0)", house.stat(0, 0), want[m][0]);
            t.due("stat(1, 0)", house.stat(1, 0), want[m][1]);
            t.due("slot(0, 0, 0)", house.slot(0, 0, 0), want[m][2]);
            t.due("slot(0, 1, 0)", house.slot(0, 1, 0), want[m][3]);
        }
    }

    private void firstOfANameCounts() {
        t.sentence("Of a NAME told again the first one counts for others (of MEMBERS in a class the first field, static, method,"
            + " virtual of it, each for what asks for such);");
        String[] users = {"get", "gets", "call", "virt"};
        String[] members = {"field x int; ", "static x int; ", "method x() none { ret; } ", "virtual x() none { ret; } "};
        for (int i = 0; i < 4; i++) {
            String user = "class U { method f() none { ret; " + users[i] + " B ~x; } } ";
            // Of a class told again the first one has the member, or has it not.
            t.dueFault(1, user.replace("~", "") + "class B { " + members[i] + "} class ~B { }");
            t.dueFault(2, user + "class B { } class B { " + members[i] + "}");
            for (int k = 0; k < 4; k++) {
                // Told again as another sort it is there for what asks for this sort.
                if (k != i) {
                    t.dueFault(1, user.replace("~", "") + "class B { " + members[k] + members[i].replace("x", "~x") + "}");
                    t.dueFault(1, user.replace("~", "") + "class B { " + members[i] + members[k].replace("x", "~x") + "}");
                    t.dueFault(2, user + "class B { " + members[k] + members[k] + "}");
                }
            }
        }
        // Of two labels of a name the first one: by the second ones the first try would go forth, the other one back.
        t.dueFault(4, code("a: ret; b: ret; try ~b a a Any; b: ret; a: ret;"));
        t.dueFault(1, code("a: ret; b: ret; try a b a Any; ~b: ret; a: ret;"));
    }

    private void parentsThatAreNone() {
        t.sentence("a CLASS whose PARENT is none (or stands below) has Any above it for others.");
        String user = "class U { method f() none { ret; @ B x; } } ";
        String[] users = {"get", "put", "gets", "puts", "call", "virt"};
        String[] members = {"field x int;", "field x int;", "static x int;", "static x int;", "method x() none { ret; }",
            "virtual x() none { ret; }"};
        for (int i = 0; i < users.length; i++) {
            String told = user.replace("@", users[i]);
            t.dueFault(2, told.replace(" x;", " ~x;") + "class B : C { } class C { " + members[i] + " }");
            t.dueFault(2, told + "class B : ~C { " + members[i] + " } class C { }");
            t.dueFault(2, told + "class B : ~Q { " + members[i] + " }");
            t.dueFault(2, told.replace(" x;", " ~x;") + "class B : B { }");
        }
        // No virtual is above it that could have other kinds.
        t.dueFault(2, "class B : ~C { virtual v() none { ret; } } class C { virtual v() int { push 1; ret; } }");
        t.dueFault(2, "class A { virtual v() none { ret; } } class B : ~Q { virtual v() int { push 1; ret; } }");
    }

    private void places() {
        t.sentence("The PLACE of the FAULT that the latest text() told; NONE if it told none.");
        TaintHouse house = new TaintHouse();
        t.due("place() ahead of any text()", house.place(), -1);
        for (int kind = 1; kind <= 5; kind++) {
            String text = ONE_OF_EACH[kind - 1];
            String[] others = {"", "?", "class A", "class A { }"};
            for (String other : others) {
                t.due("text()", Tester.read(house, text.replace("~", "")), -5000 - kind);
                t.due("place()", house.place(), text.indexOf('~'));
                t.due("place() asked again", house.place(), text.indexOf('~'));
                house.feed(0, 0, 0, 0, 0);
                house.end(0);
                house.run(0);
                house.flows(1);
                t.due("place() behind calls that read no text", house.place(), text.indexOf('~'));
                Tester.read(house, other);
                t.due("place() behind a text without a fault: " + other, house.place(), -1);
            }
        }
        // The first and the last place that there can be.
        t.dueText("class Any{}", -5001, 6);
        t.dueText("class A{method f()none{" + Tester.times(3975, " ") + "}}", -5005, 3998);
    }

    private void changesNothing() {
        t.sentence("What isn't right changes nothing;");
        String text = "class A { field x int; static s int; method f(int) int { load 0; sink 1; push 3; puts A s; new A;"
            + " push 8; put A x; load 0; ret; } }";
        TaintHouse house = t.house(text);
        house.argument(0, 9, 5);
        house.policy(1, 4);
        house.flows(6);
        t.due("run(0)", house.run(0), 1);
        String[] others = {"", "?", "class B { } class C { static q int; method g() none {", ONE_OF_EACH[0], ONE_OF_EACH[1],
            ONE_OF_EACH[2],
            ONE_OF_EACH[3], ONE_OF_EACH[4], "class B { field y ref; static z int; static y int; }"
                + " class C { method g() ref { null; } }"};
        for (String other : others) {
            t.due("text() is below 0", Tester.read(house, other.replace("~", "")) < 0, true);
            int[] counts = {8, 1, 1, 6, 0};
            for (int what = 0; what < 5; what++) {
                t.due("count(" + what + ")", house.count(what), counts[what]);
            }
            t.due("type(7, 1)", house.type(7, 1), 1);
            t.due("type(8, 0)", house.type(8, 0), -1);
            t.due("method(0, 4)", house.method(0, 4), 9);
            t.due("method(0, 5)", house.method(0, 5), 2);
            int[] results = {1, 9, 5, 9, 1, 1, 1, 2};
            for (int what = 0; what < 8; what++) {
                t.due("result(" + what + ")", house.result(what), results[what]);
            }
            t.due("event(0, 1)", house.event(0, 1), 9);
            t.due("slot(0, 0, 0)", house.slot(0, 0, 0), 8);
            t.due("stat(0, 0)", house.stat(0, 0), 3);
        }
        t.due("run(0) with the arguments that were", house.run(0), 1);
        t.due("result(1)", house.result(1), 9);
        t.due("result(2)", house.result(2), 5);
    }
}
