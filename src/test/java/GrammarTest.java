/** Promises 4 and 5: texts that are right, and texts that are wrong at a place. */
public final class GrammarTest {
    private static final Tester T = new Tester();

    public static void main(String[] args) {
        blanks();
        names();
        numbers();
        classes();
        members();
        items();
        limits();
        wrongTellsNoFault();
        T.finish();
    }

    private static String code(String items) {
        return "class A { method f() none { " + items + " ret; } }";
    }

    private static void blanks() {
        T.dueWrong("~");
        T.dueWrong("   ~");
        T.dueWrong("# class A { }~");
        T.dueWrong("#\n#~");
        T.dueRight("#a\nclass#b }\nA\t{\r\n}#", 0);
        T.dueRight("class A{}class B:A{}", 0);
        T.dueRight("class A { } # and no more", 0);
        T.dueWrong("class A { } ~\u000b");
        T.dueWrong("class A { } ~\u0000");
        T.dueWrong("class A { } ~.");
        T.dueWrong("class A { } ~_");
        T.dueWrong("~\u00e1class A { }");
        T.dueWrong("class A { # }~");
        T.dueWrong("class A #\r{ }~");
    }

    private static void names() {
        T.dueRight("class abcdefghijkl { }", 0);
        T.dueRight("class a1234567890Z { }", 0);
        T.dueWrong("class abcdefghijkl~m { }");
        T.dueWrong("class abcdefghijkl~mnop");
        T.dueWrong("class A : abcdefghijkl~m { }");
        T.dueWrong("~abcdefghijklm A { }");
        T.dueWrong("class A ~abcdefghijklm { }");
        T.dueWrong("class A { ~abcdefghijklm x int; }");
        T.dueWrong("class A { field x ~abcdefghijklm; }");
        T.dueWrong("class A { field abcdefghijkl~m int; }");
        T.dueWrong(code("abcdefghijkl~m: "));
        T.dueWrong(code("x ~abcdefghijklm: "));
        T.dueWrong(code("goto abcdefghijkl~m; "));
        T.dueWrong(code("push ~abcdefghijklm; "));
        T.dueWrong("class ~1A { }");
        T.dueWrong("class A~_b { }");
        for (String word : Words.all()) {
            T.dueWrong("class ~" + word + " { }");
            T.dueRight("class " + word + "x { field y" + word + " int; }", 0);
        }
        T.dueRight("class Class { field Any int; field a ref; field A ref; }", 0);
        // Names that differ in any one sign are different ones.
        String name = "abcdefghijkl";
        for (int i = 0; i < 12; i++) {
            String other = name.substring(0, i) + "Z" + name.substring(i + 1);
            String shorter = name.substring(0, i) + name.substring(i + 1);
            T.dueRight("class A { field " + name + " int; field " + other + " int; field " + shorter + " int; }", 0);
        }
    }

    private static void numbers() {
        String[] right = {"push 0", "push 2147483647", "push - 2147483648", "push -0", "push -#\n1", "load 0", "store 15",
            "inc 0 32767", "inc 15 - 32767", "inc 0 0", "source 0", "sink 15", "clean 65535", "mark 0"};
        for (String one : right) {
            T.dueRight(code("ret; " + one + ";"), 1);
        }
        String[] wrong = {"push ~2147483648", "push ~2147483650", "push ~99999999999999999999999", "push - ~2147483649",
            "push 0~0", "push 0~7", "push -0~1", "push - ~-1", "push ~;", "push ~x", "push 1 ~2", "push 1~x",
            "push 1~-", "load ~16", "load ~-1", "load ~- 1", "load 1 ~1", "load 0~1", "store ~16",
            "store ~99999999999", "inc ~16 1", "inc 1 ~32768", "inc 1 - ~32768", "inc 1 ~;", "inc ~- 1 1",
            "inc 1 0~1", "inc 1~,1", "load ~150", "inc 1 ~327670",
            "inc 1 - ~327670", "push ~21474836470", "push - ~21474836480", "mark ~655350", "source ~16", "sink ~16", "clean ~65536", "mark ~65536", "mark ~-1",
            "mark ~2147483648"};
        for (String one : wrong) {
            T.dueWrong(code("ret; " + one + ";"));
        }
        T.dueWrong("class A { method f() none { push 0~0");
        T.dueWrong("class A { method f() none { push 0~");
        T.due("-0", value("push -0"), 0);
        T.due("least", value("push - 2147483648"), Integer.MIN_VALUE);
        T.due("most", value("push 2147483647"), Integer.MAX_VALUE);
        T.due("-2147483647", value("push -2147483647"), -2147483647);
        T.due("1234567890", value("push 1234567890"), 1234567890);
        T.due("inc by - 32767", value("push 5; store 15; inc 15 - 32767; load 15"), 5 - 32767);
    }

    private static int value(String code) {
        TaintHouse house = T.house("class A { method f() int { " + code + "; ret; } }");
        house.run(0);
        return house.result(1);
    }

    private static void classes() {
        T.dueWrong("~A { }");
        T.dueWrong("~field");
        T.dueWrong("~1");
        T.dueWrong("class~");
        T.dueWrong("class ~{ }");
        T.dueWrong("class A~");
        T.dueWrong("class A ~;");
        T.dueWrong("class A : ~{ }");
        T.dueWrong("class A : ~class { }");
        T.dueWrong("class A : B ~: C { }");
        T.dueWrong("class A ~class B { x }");
        T.dueWrong("class A : ~: x");
        T.dueWrong("class A { ~");
        T.dueWrong("class A { ~; }");
        T.dueWrong("class A { } ~}");
        T.dueWrong("class A { } ~cla");
        T.dueWrong("class A { ~class B { } }");
        T.dueWrong("class A { ~push 1; }");
        T.dueRight("class A { } class B : A { } class C : Fault { } class D : Any { }", 0);
    }

    private static void members() {
        T.dueWrong("class A { field ~int; }");
        T.dueWrong("class A { field x ~none; }");
        T.dueWrong("class A { field x int ~}");
        T.dueWrong("class A { field x int ~, y int; }");
        T.dueWrong("class A { static x ~y; }");
        T.dueWrong("class A { static ~0 int; }");
        T.dueWrong("class A { static x ~static y 5 }");
        T.dueWrong("class A { field x ~field y 5 }");
        T.dueWrong("class A { method f() ~{ 5 } }");
        T.dueWrong("class A { method f(int ~method f() 5 } }");
        T.dueWrong("class A { method ~( ) none { } }");
        T.dueWrong("class A { method f ~none { } }");
        T.dueWrong("class A { method f(~none) none { ret; } }");
        T.dueWrong("class A { method f(~, int) none { ret; } }");
        T.dueWrong("class A { method f(int ~int) none { ret; } }");
        T.dueWrong("class A { method f(int,~) none { ret; } }");
        T.dueWrong("class A { method f(int, ~none) none { ret; } }");
        T.dueWrong("class A { method f(int ~; ) none { ret; } }");
        T.dueWrong("class A { method f() ~{ ret; } }");
        T.dueWrong("class A { method f() ~A { ret; } }");
        T.dueWrong("class A { method f() none ~; }");
        T.dueWrong("class A { virtual f() none { ret; }~");
        T.dueWrong("class A { virtual f() none { ret;~");
        T.dueWrong("class A { virtual f() none { ret; } ~; }");
        T.dueRight("class A { virtual f() none { ret; } field x int; method g(ref) ref { load 0; ret; } static s ref; }", 2);
        T.dueRight("class A { method f(int, ref, int, ref, int, ref) int { load 4; ret; } }", 1);
        T.dueWrong("class A { method f(int, ref, int, ref, int, ref~, int) int { load 4; ret; } }");
    }

    private static void items() {
        T.dueWrong(code("x ~ret; "));
        T.dueWrong(code("x~; "));
        T.dueWrong("class A { method f() none { x~");
        T.dueWrong(code("~: "));
        T.dueWrong(code("add ~add; "));
        T.dueWrong(code("add ~1; "));
        T.dueWrong(code("add ~x; "));
        T.dueWrong(code("goto ~; "));
        T.dueWrong(code("goto ~goto 5; "));
        T.dueWrong(code("x ~y: 5"));
        T.dueWrong(code("try a b ~try 5"));
        T.dueWrong(code("goto ~goto; "));
        T.dueWrong(code("goto x ~y; "));
        T.dueWrong(code("new ~; "));
        T.dueWrong(code("new A ~x; "));
        T.dueWrong(code("get A ~; "));
        T.dueWrong(code("call A f ~(); "));
        T.dueWrong(code("virt A~, v; "));
        T.dueWrong(code("ret ~1; "));
        T.dueWrong(code("try a b c~; "));
        T.dueWrong(code("try a b c d ~e; "));
        T.dueWrong(code("try a b ~1 d; "));
        T.dueWrong(code("try ~; "));
        T.dueWrong(code("~field x int; "));
        T.dueWrong(code("~int; "));
        T.dueWrong(code("~{ "));
        T.dueWrong(code("~-; "));
        T.dueRight(code("x: y: Any: f: A: "), 1);
        for (String word : Words.PLAIN) {
            T.dueRight(code("ret; " + word + ";"), 1);
            T.dueWrong(code("ret; " + word + " ~L;"));
        }
        for (String word : Words.JUMPS) {
            T.dueRight(code("L: ret; " + word + " L;"), 1);
            T.dueWrong(code("ret; " + word + "~;"));
        }
        for (String word : Words.OF_CLASS) {
            T.dueRight(code("ret; " + word + " Fault;"), 1);
            T.dueWrong(code("ret; " + word + " ~3;"));
        }
    }

    private static void limits() {
        T.dueRight(Tester.times(12, "class A% { } "), 0);
        T.dueWrong(Tester.times(12, "class A% { } ") + "~class B { }");
        T.dueRight("class A { " + Tester.times(8, "field x% int; ") + "} class B : A { " + Tester.times(8, "field x% ref; ") + "}", 0);
        T.dueWrong("class A { " + Tester.times(8, "field x% int; ") + "~field y int; }");
        T.dueWrong("class A { " + Tester.times(8, "field x% int; ") + "} class B : A { " + Tester.times(8, "field x% ref; ") + "~field");
        String eight = "field a int; field b ref; field c int; field d ref; field e int; field f ref; field g int; field h ref;";
        T.dueRight(Tester.times(12, "class A% { " + eight + " } "), 0);
        T.dueRight("class A { " + Tester.times(8, "static s% int; ") + "} class B { " + Tester.times(8, "static s% ref; ") + "}", 0);
        T.dueWrong("class A { " + Tester.times(8, "static s% int; ") + "} class B { " + Tester.times(8, "static s% ref; ")
            + "~static t int; }");
        String half = Tester.times(12, "method f%() none { ret; } ");
        String rest = Tester.times(12, "virtual f%() none { ret; } ");
        T.dueRight("class A { " + half + "} class B { " + rest + "}", 24);
        T.dueWrong("class A { " + half + "} class B { " + rest + "~method g() none { ret; } }");
        T.dueWrong("class A { " + half + "} class B { " + rest + "~virtual g() none { ret; } }");
        T.dueRight(code("a: goto b; b: ret; c: pop; " + Tester.times(8, "try a b c Any; ")), 1);
        T.dueWrong(code("a: goto b; b: ret; c: pop; " + Tester.times(8, "try a b c Any; ") + "~try a b c Any;"));
        String two = code("a: goto b; b: ret; c: pop; " + Tester.times(8, "try a b c Any; "));
        T.dueRight(two + two.replace("class A", "class B"), 2);
        T.dueRight("class A { method f() none { " + Tester.times(99, "goto x; ") + "x: ret; } method g() none { "
            + Tester.times(50, "goto x%; x%: ret; ") + " z: } }", 2);
        T.dueWrong("class A { method f() none { " + Tester.times(100, "goto x; ") + "x: ~ret; } }");
        T.dueWrong("class A { method f() none { " + Tester.times(100, "goto x; ") + "x: ~push");
        T.dueWrong("class A { method f() none { " + Tester.times(100, "goto x; ") + "x: ~class");
    }

    private static void wrongTellsNoFault() {
        TaintHouse house = new TaintHouse();
        T.due("text() with a fault", Tester.read(house, "class A { } class A { }"), -5001);
        T.due("place()", house.place(), 18);
        T.due("text() that is wrong behind a fault", Tester.read(house, "class A { } class A { } x"), -1 - 24);
        T.due("place()", house.place(), -1);
        Tester.read(house, "class A { } class A { }");
        T.due("text() that is right", Tester.read(house, "class A { }"), 0);
        T.due("place()", house.place(), -1);
    }
}
