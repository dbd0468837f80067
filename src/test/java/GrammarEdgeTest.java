import java.util.List;

/** The grammar, sentence by sentence: where a text is wrong, and how many of each there may be. */
public final class GrammarEdgeTest {
    /** All sorts of members and items, with one blank between tokens. */
    private static final String ALL_SORTS = "class A : Fault { field x int ; field r ref ; static s int ; static t ref ;"
        + " method f ( int , ref ) none { a : push - 5 ; push 7 ; inc 0 - 3 ; inc 0 3 ; load 0 ; b : try a b c Any ; goto d ;"
        + " c : get A x ; new A ; pop ; sink 3 ; ret ; d : ret ; e : } virtual v ( ) int { push 1 ; ret ; }"
        + " virtual w ( int , int , int , int , int , int ) ref { push 1 ; mark 5 ; null ; ret ; } }";

    private final Tester t;

    GrammarEdgeTest(Tester tester) {
        t = tester;
    }

    public static void main(String[] args) {
        Tester tester = new Tester();
        new GrammarEdgeTest(tester).all();
        tester.finish();
    }

    void all() {
        ends();
        emptyTexts();
        tokensThatCannotStand();
        classes();
        headsOfClasses();
        fields();
        statics();
        methods();
        kinds();
        rowsOfKinds();
        seventhKind();
        results();
        labelsAndTries();
        namesAmongItems();
        labelsAtTheEnd();
        instructions();
        oneTooMany();
        whatIsToldToInstructions();
        firstClasses();
        numbersOfAll();
        answers();
    }

    private static String method(String items) {
        return "class A { method f() none { " + items + " } }";
    }

    private static String code(String items) {
        return method("ret; " + items);
    }

    private void ends() {
        t.sentence("A text is WRONG at a PLACE: that of the first byte (from 0 on; the length at its end) with which,"
            + " from the left, it can't go on to be right;");
        t.dueRight(ALL_SORTS, 3);
        String[] tokens = ALL_SORTS.split(" ");
        String part = "";
        for (String token : tokens) {
            t.dueWrong(part + "~");
            t.dueWrong(part + " \n~");
            t.dueWrong(part + "# }~");
            t.dueWrong(part + "\t~?");
            t.dueWrong(part + " ~\u0000");
            part = part.isEmpty() ? token : part + " " + token;
        }
        t.dueRight(part, 3);
        t.dueWrong(part + " ~}");
        t.dueWrong("~;class A { }");
        // The first place counts, whatever is wrong behind it.
        t.dueWrong("class A { field ~; } class ; 99999999999 ? abcdefghijklmnop");
        t.dueWrong("class A { ~? ? }");
    }

    private void emptyTexts() {
        t.sentence("TEXTS: an empty one is WRONG at its end.");
        t.dueWrong("~");
        t.dueWrong(" ~");
        t.dueWrong("#~");
        t.dueWrong("# class A { }~");
        t.dueWrong("\t\r\n # \n ~");
        TaintHouse house = new TaintHouse();
        t.due("text() of a tape that was never fed", house.text(), -1);
        house.feed(0x20202020, 0x20202020, 0x20202020, 0x20202020, 0x20202020);
        t.due("text() of 20 blanks", house.text(), -21);
        house.feed(0x20202020, 0x20202020, 0x20202020, 0x20202020, 0x20202020);
        house.end(0);
        t.due("text() behind end(0)", house.text(), -1);
    }

    private void tokensThatCannotStand() {
        t.sentence("of a TOKEN that can't stand its first byte.");
        String[] tokens = ALL_SORTS.split(" ");
        boolean inKinds = false;
        for (int i = 0; i < tokens.length; i++) {
            String token = tokens[i];
            inKinds = !token.equals(")") && (inKinds || token.equals("("));
            t.dueWrong(replaced(tokens, i, "?"));
            if (i > 0) {
                t.dueWrong(replaced(tokens, i, "class"));
            }
            if (!token.equals("-") && !Character.isDigit(token.charAt(0))) {
                t.dueWrong(replaced(tokens, i, "5"));
                t.dueWrong(replaced(tokens, i, "99999999999"));
            }
            if (!inKinds && !token.equals(")")) {
                t.dueWrong(replaced(tokens, i, ","));
                t.dueWrong(replaced(tokens, i, ")"));
            }
        }
        // A word that isn't whole is a name: it can't stand, though more bytes could make it stand.
        t.dueWrong("~clas");
        t.dueWrong("class A { ~fiel");
        t.dueWrong("class A { field x ~in");
        t.dueWrong("class A { method f() ~non");
        t.dueWrong("class A { method f() none { ret; pus~");
    }

    private static String replaced(String[] tokens, int i, String by) {
        StringBuilder text = new StringBuilder();
        for (int k = 0; k < tokens.length; k++) {
            text.append(k > 0 ? " " : "").append(k == i ? "~" + by : tokens[k]);
        }
        return text.toString();
    }

    private void classes() {
        t.sentence("A TEXT: 1 to 12 CLASSES.");
        for (int n = 1; n <= 12; n++) {
            TaintHouse house = t.house(Tester.times(n, "class A% { } "));
            t.due("count(0) of " + n + " classes", house.count(0), 7 + n);
        }
        t.dueWrong(Tester.times(12, "class A% { } ") + "~class B { }");
        t.dueWrong(Tester.times(13, "class A% { } ").replace("class A12", "~class A12"));
        t.dueWrong("~");
    }

    private void headsOfClasses() {
        t.sentence("CLASS: class NAME { MEMBERS } or class NAME : NAME { MEMBERS }, the second one is its PARENT.");
        TaintHouse house = t.house("class A { } class B : A { } class C : B { } class D : A { } class E : Fault { }");
        int[] parents = {0, 7, 8, 7, 1};
        for (int i = 0; i < parents.length; i++) {
            t.due("type(" + (7 + i) + ", 0)", house.type(7 + i, 0), parents[i]);
        }
        t.dueWrong("class A : ~{ }");
        t.dueWrong("class A : B ~: C { }");
        t.dueWrong("class A : B ~C { }");
        t.dueWrong("class ~: A { }");
        t.dueWrong("class A : ~: A { }");
        t.dueWrong("class A { } ~{ }");
        t.dueWrong("class A { ~{ } }");
    }

    private void fields() {
        t.sentence("MEMBERS, none of them too: field NAME KIND ; (at most 8 a class)");
        t.dueRight("class A { } class B { }", 0);
        String eight = Tester.times(8, "field x% int; ");
        for (int n = 0; n <= 8; n++) {
            TaintHouse house = t.house("class A { " + Tester.times(n, "field x% int; ") + "}");
            t.due("type(7, 1)", house.type(7, 1), n);
        }
        t.dueWrong("class A { " + eight + "~field y int; }");
        t.dueWrong("class A { } class B { " + eight + "~field y int; }");
        t.dueWrong("class A { " + eight + "static s int; method f() none { ret; } ~field y int; }");
        // Those of classes above, of other classes, and statics are no fields of this one.
        TaintHouse house = t.house("class A { " + eight + "} class B : A { " + eight + Tester.times(8, "static s% int; ")
            + "} class C : B { " + eight + "}");
        t.due("type(9, 1)", house.type(9, 1), 24);
        t.dueWrong("class A { " + eight + "} class B : A { " + eight + "~field y int; }");
        String all = "";
        for (int c = 0; c < 12; c++) {
            all += "class C" + c + (c == 0 ? "" : " : C" + (c - 1)) + " { " + eight + "} ";
        }
        TaintHouse deep = t.house(all);
        t.due("type(18, 1)", deep.type(18, 1), 96);
    }

    private void statics() {
        t.sentence("static NAME KIND ; (at most 16 in all)");
        for (int n = 0; n <= 16; n++) {
            TaintHouse house = t.house("class A { " + Tester.times(n, "static s% int; ") + "}");
            t.due("count(2)", house.count(2), n);
        }
        t.dueWrong("class A { " + Tester.times(16, "static s% int; ") + "~static t int; }");
        String four = Tester.times(4, "static s% ref; ");
        String spread = "class A { " + four + "} class B : A { " + four + "} class C { " + four + "} class D { " + four;
        t.dueRight(spread + "}", 0);
        t.dueWrong(spread + "~static t int; }");
        t.dueWrong(spread + "} class E { ~static t int; }");
        t.dueRight(spread + Tester.times(8, "field x% int; ") + "} class E { field x int; }", 0);
    }

    private void methods() {
        t.sentence("method NAME ( KINDS ) RESULT { ITEMS } and virtual NAME ( KINDS ) RESULT { ITEMS }"
            + " (at most 24 METHODS in all).");
        String methods = Tester.times(24, "method f%() none { ret; } ");
        String virtuals = methods.replace("method", "virtual");
        String mixed = Tester.times(12, "method f%() none { ret; } virtual v%() none { ret; } ");
        for (String all : new String[] {methods, virtuals, mixed}) {
            t.dueRight("class A { " + all + "}", 24);
            t.dueWrong("class A { " + all + "~method g() none { ret; } }");
            t.dueWrong("class A { " + all + "~virtual g() none { ret; } }");
            t.dueWrong("class A { " + all + "} class B { ~method g() none { ret; } }");
            t.dueRight("class A { " + all + "field x int; static s int; } class B { field x int; }", 24);
        }
        String spread = Tester.times(8, "class A% { method f() none { ret; } virtual g() none { ret; } method h() none { ret; } } ");
        t.dueRight(spread, 24);
        t.dueWrong(spread + "class B { ~virtual f() none { ret; } }");
        t.dueRight("class A { method f() none { ret; } }", 1);
        t.dueRight("class A { }", 0);
    }

    private void kinds() {
        t.sentence("KIND: int or ref.");
        for (String kind : new String[] {"int", "ref"}) {
            t.dueRight("class A { field x " + kind + "; static s " + kind + "; method f(" + kind + ") none { ret; } }", 1);
        }
        for (String other : new String[] {"none", "Int", "ints", "refs", "A", "0", ";", "int ~int", "ref ~ref"}) {
            String wrong = other.indexOf('~') < 0 ? "~" + other : other;
            t.dueWrong("class A { field x " + wrong + "; }");
            t.dueWrong("class A { static x " + wrong + "; }");
            t.dueWrong("class A { method f(" + wrong + ") none { ret; } }");
        }
    }

    private void rowsOfKinds() {
        t.sentence("KINDS: none, or 1 to 6 with , between.");
        for (String word : new String[] {"method", "virtual"}) {
            String kinds = "";
            for (int n = 0; n <= 6; n++) {
                TaintHouse house = t.house("class A { " + word + " f(" + kinds + ") none { ret; } }");
                t.due("method(0, 1)", house.method(0, 1), n);
                kinds += (n == 0 ? "" : ", ") + (n % 2 == 0 ? "int" : "ref");
            }
            String head = "class A { " + word + " f(";
            t.dueWrong(head + "~, int) none { ret; } }");
            t.dueWrong(head + "int,~) none { ret; } }");
            t.dueWrong(head + "int, ~, int) none { ret; } }");
            t.dueWrong(head + "int ~int) none { ret; } }");
            t.dueWrong(head + "~none) none { ret; } }");
            t.dueWrong(head + "int ~; int) none { ret; } }");
            t.dueWrong(head + "~() none { ret; } }");
        }
    }

    private void seventhKind() {
        t.sentence("A seventh KIND is WRONG at the comma ahead of it;");
        for (String word : new String[] {"method", "virtual"}) {
            String six = "class A { " + word + " f(int, ref, int, ref, int, ref";
            t.dueRight(six + ") none { ret; } }", 1);
            for (String behind : new String[] {", int) none { ret; } }", ",", ", ", ",)", ",,", ", 5", ", int, int, int)",
                ", none)"}) {
                t.dueWrong(six + "~" + behind);
                t.dueWrong(six + " ~" + behind);
            }
            t.dueWrong(six + " ~int) none { ret; } }");
            t.dueWrong(six.substring(0, six.length() - 5) + ", ~");
        }
    }

    private void results() {
        t.sentence("RESULT: int, ref or none.");
        String[] rights = {"none { ret; }", "int { push 1; ret; }", "ref { null; ret; }"};
        for (int i = 0; i < rights.length; i++) {
            for (String word : new String[] {"method", "virtual"}) {
                TaintHouse house = t.house("class A { " + word + " f() " + rights[i] + " }");
                t.due("method(0, 2)", house.method(0, 2), i);
            }
        }
        for (String wrong : new String[] {"~{ ret; }", "~None { ret; }", "~A { ret; }", "~0 { ret; }", "~, { ret; }",
            "int ~ref { ret; }",
            "none ~none { ret; }", "~(none) { ret; }", "~class"}) {
            t.dueWrong("class A { method f() " + wrong + " }");
        }
    }

    private void labelsAndTries() {
        t.sentence("ITEMS: NAME : is a LABEL; try NAME NAME NAME NAME ; (from, to, at: LABELS; a class; at most 8 a METHOD);");
        String items = "a: ret; b: pop; ret; ";
        for (int n = 0; n <= 8; n++) {
            t.dueRight(method(items + Tester.times(n, "try a b b Any; ")), 1);
        }
        String eight = Tester.times(8, "try a b b Any; ");
        t.dueWrong(method(items + eight + "~try a b b Any;"));
        t.dueWrong(method(eight + "~try a b b Any; " + items));
        t.dueWrong(method(Tester.times(4, "try a b b Any; ") + items + Tester.times(4, "try a b b Any; ")
            + "c: ~try a b b Any;"));
        // So many a method, not in all.
        String three = "class A { " + Tester.times(3, "method f%() none { " + items + eight + "} ");
        t.dueRight(three + "}", 3);
        t.dueWrong(three + "method g() none { " + items + eight + "~try a b b Any; } }");
        // As many labels as there may be bytes for, also where no instruction is between them.
        t.dueRight(method(Tester.times(200, "a%: ") + "ret; " + Tester.times(200, "b%: ")), 1);
        for (String wrong : new String[] {"try~;", "try a~;", "try a b~;", "try a b b~;", "try a b b Any ~Any;",
            "try a~, b b Any;",
            "try a b b Any~:", "try ~: a b b Any;", "try a~: b", "~:", "a: ~: ", "a ~a:"}) {
            t.dueWrong(code(wrong));
        }
    }

    private void namesAmongItems() {
        t.sentence("A NAME among ITEMS must have : behind it.");
        t.dueRight(method("x: ret;"), 1);
        t.dueRight(method("x : ret;"), 1);
        t.dueRight(method("x\n#y\n: ret;"), 1);
        for (String behind : new String[] {"~;", "~ret;", "~}", "~x:", "~x;", "~5;", "~,", "~{", "~-", "~try x x x A;",
            "~class"}) {
            t.dueWrong(method("x " + behind + " ret;"));
            t.dueWrong(method("ret; x " + behind));
        }
        t.dueWrong("class A { method f() none { x~");
        t.dueWrong("class A { method f() none { ret; x ~");
        // Names of classes and members, and words of another case, are names, too.
        t.dueRight(method("A: f: Any: Push: RET: ret;"), 1);
        t.dueWrong(method("A ~ret;"));
    }

    private void labelsAtTheEnd() {
        t.sentence("A LABEL may stand at a METHOD's end (also as the second one of a try); to come to it is FAULT 5 at } .");
        t.dueRight(method("ret; x:"), 1);
        t.dueRight(method("ret; x: y: z:"), 1);
        t.dueRight(method("goto a; h: pop; ret; a: ret; x: try a x h Any;"), 1);
        t.dueRight(method("goto a; h: pop; ret; a: null; throw; x: try h x h Any;"), 1);
        t.dueRight(method("ret; goto x; x:"), 1);
        String end = "class A { method f() none { @ ~} }";
        for (String items : new String[] {"x:", "push 1; x:", "goto x; x:", "push 1; ifeq x; ret; x:", "null; ifnull x; ret; x:",
            "a: ret; b: x: try a b x Any;", "a: ret; x: try a x x Any;", "push 1; ifeq a; ret; a: goto x; x: y:"}) {
            t.dueFault(5, end.replace("@", items));
        }
        // It catches up to the last instruction.
        t.dueRun("class A { method f() int { goto a; h: pop; push 7; ret; a: null; throw; x: try a x h Any; } }", 0, 1, 7, 0);
    }

    private void instructions() {
        t.sentence("an INSTRUCTION and ; (at most 100 a METHOD).");
        for (int n : new int[] {1, 2, 99, 100}) {
            TaintHouse house = t.house(method(Tester.times(n - 1, "goto x%; x%: ") + "ret;"));
            t.due("method(0, 4)", house.method(0, 4), n);
            t.due("run(0)", house.run(0), 0);
            t.due("result(3)", house.result(3), n);
        }
        String hundred = "ret; " + Tester.times(99, "or; ");
        t.dueRight(method(hundred), 1);
        t.dueRight(method(hundred + "x: y: z:"), 1);
        t.dueRight(method("a: ret; b: throw; " + Tester.times(98, "or; ") + Tester.times(8, "try a b b Any; ")), 1);
        t.dueWrong(method(hundred + "~ret;"));
        t.dueWrong(method(hundred + "x: ~ret;"));
        // So many a method, not in all.
        String three = "class A { " + Tester.times(3, "method f%() none { " + hundred + "} ");
        t.dueRight(three + "}", 3);
        t.dueWrong(three + "method g() none { " + hundred + "~ret; } }");
        for (String word : Words.PLAIN) {
            t.dueWrong(code(word + " ~" + word + ";"));
            t.dueWrong(code(word + "~:"));
            t.dueWrong(code(word + "; ~;"));
        }
    }

    /** Whatever is behind the first byte of it: nothing, what is wrong itself, what would be right or a fault. */
    private void oneTooMany() {
        String[] behind = {"", " ", " ;", " 5", " ?", " abcdefghijklm"};
        String eightTries = Tester.times(8, "try a b b Any; ");
        String hundred = "ret; " + Tester.times(99, "or; ");
        String[][] full = {
            {Tester.times(12, "class A% { } "), "class B { }", "class A0 { }", "class B : Q { }"},
            {"class A { " + Tester.times(8, "field x% int; "), "field y int; }", "field x0 int; }"},
            {"class A { " + Tester.times(16, "static s% int; "), "static t int; }", "static s0 int; }"},
            {"class A { " + Tester.times(24, "method f%() none { ret; } "), "method g() none { ret; } }",
                "virtual f0() none { } }",
                "virtual g() none { ret; } }"},
            {"class A { method f() none { a: ret; b: pop; ret; " + eightTries, "try a b b Any; } }", "try q q q Q; } }"},
            {"class A { method f() none { " + hundred, "ret; } }", "goto q; } }", "push 99999999999; } }"}};
        for (String words : new String[] {"What is one too many is WRONG at its first byte.",
            "a 13th CLASS, 9th field, 17th static, 25th METHOD, 9th try, 101st INSTRUCTION at its WORD."}) {
            t.sentence(words);
            for (String[] row : full) {
                for (int i = 1; i < row.length; i++) {
                    t.dueWrong(row[0] + "~" + row[i]);
                    String word = row[i].substring(0, row[i].indexOf(' ') < 0 ? 3 : row[i].replace(';', ' ').indexOf(' '));
                    for (String more : behind) {
                        t.dueWrong(row[0] + "~" + word + more);
                    }
                }
            }
            // Ahead of a text's faults, too.
            t.dueWrong("class Any { } " + Tester.times(11, "class A% { } ") + "~class B { }");
        }
        for (List<String> words : List.of(Words.PLAIN, Words.JUMPS, Words.OF_CLASS, Words.OF_MEMBER, Words.OF_NUMBER)) {
            for (String word : words) {
                t.dueWrong("class A { method f() none { " + hundred + "~" + word + "; } }");
            }
        }
        for (String other : new String[] {"class", "field", "int", "none", "5", ";", "-", "?"}) {
            t.dueWrong("class A { method f() none { " + hundred + "~" + other);
        }
    }

    private void whatIsToldToInstructions() {
        t.sentence("INSTRUCTIONS, with what is told to them (L a LABEL, C a class, N a NUMBER, k a NUMBER 0 .. 15):");
        for (String word : Words.PLAIN) {
            forms(word + "#:", word + " ~x:", word + " ~5:", word + " ~-:");
        }
        for (String word : Words.JUMPS) {
            forms(word + " L#:", word + " ~:", word + " ~5:", word + " L ~L:", word + " L ~5:", word + " ~-:");
        }
        for (String word : Words.OF_CLASS) {
            forms(word + " A#:", word + " ~:", word + " ~5:", word + " A ~A:", word + " A ~5:");
        }
        String[] names = {"x", "x", "s", "s", "m", "v"};
        for (int i = 0; i < names.length; i++) {
            String word = Words.OF_MEMBER.get(i);
            forms(word + " A " + names[i] + "#:", word + " ~:", word + " ~5:", word + " A ~:", word + " A ~5:",
                word + " A x ~x:", word + " A x ~5:", word + " A~, x:");
        }
        for (String word : new String[] {"load", "store", "source", "sink", "clean", "mark"}) {
            forms(word + " 5#:", word + " ~:", word + " ~x:", word + " ~-5:", word + " 5 ~5:", word + " 5 ~x:");
        }
        forms("push 5#:", "push ~:", "push ~x:", "push 5 ~5:", "push - ~:", "push - ~x:", "push ~,:");
        forms("push - 5#:", "push - 5 ~5:", "push - 5 ~-:");
        forms("inc 5 5#:", "inc ~:", "inc ~x:", "inc 5 ~:", "inc 5 ~x:", "inc 5 5 ~5:", "inc 5~,5:", "inc ~-5 5:");
        forms("inc 5 - 5#:", "inc 5 - ~:", "inc 5 - ~x:", "inc 5 - 5 ~5:");
        t.sentence("push N, push - N (at most 2147483648 then); null; load k; store k; inc k N, inc k - N (N at most 32767);"
            + " dup; pop; swap;");
        t.dueRight(code("push 2147483647; push - 2147483648; load 15; store 15; inc 15 32767; inc 15 - 32767;"), 1);
        for (String wrong : new String[] {"push ~2147483648", "push - ~2147483649", "load ~16", "store ~16", "inc ~16 1",
            "inc 15 ~32768", "inc 15 - ~32768"}) {
            t.dueWrong(code(wrong + ";"));
        }
        t.sentence("source k; sink k; clean N; mark N (N at most 65535).");
        t.dueRight(code("source 15; sink 15; clean 65535; mark 65535; source 0; sink 0; clean 0; mark 0;"), 1);
        for (String wrong : new String[] {"source ~16", "sink ~16", "clean ~65536", "mark ~65536"}) {
            t.dueWrong(code(wrong + ";"));
        }
    }

    /** The first form is right with ; behind it; the others, with what : stands for, are wrong at ~. */
    private void forms(String right, String... wrongs) {
        String around = "class A { field x int; static s int; method m() none { ret; } virtual v() none { ret; }"
            + " method f() none { L: ret; @ } }";
        t.dueRight(around.replace("@", right.replace("#:", ";")), 3);
        t.dueWrong(around.replace("@", right.replace("#:", "~}")));
        t.dueWrong(around.replace("@", right.replace("#:", "~:")));
        String open = around.substring(0, around.indexOf('@'));
        t.dueWrong(open + right.replace("#:", "~"));
        for (String wrong : wrongs) {
            t.dueWrong(around.replace("@", wrong.substring(0, wrong.length() - 1) + ";"));
        }
    }

    private void firstClasses() {
        t.sentence("CLASSES ahead of all others, without MEMBERS: Any, and behind it, with Any as PARENT, Fault; with Fault:"
            + " NullFault, BoundsFault, SizeFault, DivideFault, CastFault.");
        int[] parents = {-1, 0, 1, 1, 1, 1, 1};
        for (TaintHouse house : new TaintHouse[] {new TaintHouse(),
            t.house("class A { field x int; method f() none { ret; } }")}) {
            for (int c = 0; c < 7; c++) {
                t.due("type(" + c + ", 0)", house.type(c, 0), parents[c]);
                t.due("type(" + c + ", 1)", house.type(c, 1), 0);
                t.due("type(" + c + ", 2)", house.type(c, 2), 0);
            }
        }
        for (int c = 0; c < 7; c++) {
            String name = Words.FIRST_CLASSES.get(c);
            TaintHouse house = t.house("class A : " + name + " { method f() ref { new " + name + "; ret; } }");
            t.due("type(7, 0)", house.type(7, 0), c);
            t.due("run(0)", house.run(0), 2);
            t.due("object(0, 0)", house.object(0, 0), c);
            t.due("object(0, 1)", house.object(0, 1), 0);
            for (String word : Words.OF_MEMBER) {
                t.dueFault(2, "class A { field x int; method f() none { ret; " + word + " " + name + " ~x; } }");
            }
        }
        t.sentence("A CLASS without a PARENT has Any.");
        TaintHouse house = t.house("class A { } class B : Any { } class C : A { } class D { }");
        int[] ofThese = {0, 0, 7, 0};
        for (int i = 0; i < 4; i++) {
            t.due("type(" + (7 + i) + ", 0)", house.type(7 + i, 0), ofThese[i]);
        }
    }

    private void numbersOfAll() {
        t.sentence("CLASSES are numbered 0 (Any) to 6, then from 7 on as they stand; METHODS, statics from 0 on as they stand.");
        String text = "class A { static s int; method f() int { push 0; ret; } static t int; virtual v() int { push 1; ret; } }"
            + " class B : A { virtual v() int { push 2; ret; } static s int; } class C { } class D { method f() int { push 3;"
            + " ret; } static t ref; method g() int { push 40; puts A s; push 41; puts A t; push 42; puts B s; new D; puts D t;"
            + " push 4; ret; } }";
        TaintHouse house = t.house(text);
        int[] owners = {7, 7, 8, 10, 10};
        for (int m = 0; m < 5; m++) {
            t.due("method(" + m + ", 0)", house.method(m, 0), owners[m]);
            t.due("run(" + m + ")", house.run(m), 1);
            t.due("result(1)", house.result(1), m);
        }
        int[] statics = {40, 41, 42, 0};
        for (int k = 0; k < 4; k++) {
            t.due("stat(" + k + ", 0)", house.stat(k, 0), statics[k]);
        }
        t.due("object(0, 0)", house.object(0, 0), 10);
        t.due("type(10, 0)", house.type(10, 0), 0);
        t.due("type(11, 0)", house.type(11, 0), -1);
        TaintHouse full = t.house(Tester.times(11, "class A% { } ") + "class B : A10 { }");
        t.due("type(18, 0)", full.type(18, 0), 17);
        t.due("type(19, 0)", full.type(19, 0), -1);
    }

    private void answers() {
        t.sentence("A TEXT: how many METHODS; -1 less the PLACE if it is WRONG; -5000 less the kind of its FAULT.");
        t.dueText("class A { }", 0, -1);
        t.dueText("class A { method f() none { ret; } }", 1, -1);
        t.dueText("class A { " + Tester.times(24, "method f%() none { ret; } ") + "}", 24, -1);
        t.dueText("", -1, -1);
        t.dueText("?", -1, -1);
        t.dueText(" ?", -2, -1);
        t.dueText(Tester.times(3999, " ") + "?", -4000, -1);
        t.dueText(Tester.times(4000, " "), -4001, -1);
        t.dueText("class Any { }", -5001, 6);
        t.dueText("class A : B { }", -5002, 10);
        t.dueText("class A { virtual v() none { ret; } } class B : A { virtual v(int) none { ret; } }", -5003, 60);
        t.dueText(method("a: ret; try a a a A;"), -5004, 40);
        t.dueText(method("add;"), -5005, 28);
        t.dueText(Tester.times(3986, " ") + "class Fault{}", -5001, 3992);
    }
}
