/** Fault 5, sentence by sentence: what stacks and locals may be, and in which order code is looked at. */
public final class CodeEdgeTest {
    private static final int METHODS = 4;
    private final Tester t;

    CodeEdgeTest(Tester tester) {
        t = tester;
    }

    public static void main(String[] args) {
        Tester tester = new Tester();
        new CodeEdgeTest(tester).all();
        tester.finish();
    }

    void all() {
        behindTheOthers();
        methodsInOrder();
        firstInstruction();
        firstStackAndLocals();
        severalKinds();
        severalKindsBehindOthers();
        lowestFirst();
        takenKinds();
        sixteen();
        localsThatMustBe();
        needsOfCalls();
        whatIsBehind();
        triesAround();
        endsOfMethods();
        otherStacks();
        localsByAnyWay();
        somethingNew();
        loads();
        orderAtOneInstruction();
        everyInstructionInATry();
        stores();
        returns();
        placesOnTheStack();
        nothingOnTheStack();
    }

    private static String code(String items) {
        return Words.withMethod("() none", items);
    }

    private static String code(String head, String items) {
        return Words.withMethod(head, items);
    }

    private static String word(String row) {
        return row.substring(0, row.indexOf(':'));
    }

    private static String taken(String row) {
        return row.substring(row.indexOf(':') + 2, row.indexOf('>'));
    }

    private static String given(String row) {
        return row.substring(row.indexOf('>') + 1);
    }

    private void behindTheOthers() {
        t.sentence("Behind these, if there are none, the CODE of each METHOD, in order (5, at the INSTRUCTION's WORD;"
            + " of the end of a METHOD at its } ):");
        t.dueFault(5, "class A { method f() none { ~add; } }");
        t.dueFault(5, "class A { method f() none { x: y: ~get A z; } field z int; }");
        t.dueFault(5, "class A { method f() none { push 1; ~} }");
        t.dueFault(5, "class A { method f() none { push 1;# }\n~} }");
        String bad = "class A { method f() none { add; } } ";
        t.dueFault(1, bad + "class ~A { }");
        t.dueFault(2, bad + "class B : ~C { }");
        t.dueFault(2, bad + "class B { method f() none { sub; goto ~x; } }");
        t.dueFault(3, bad + "class B { virtual v() none { ret; } } class C : B { virtual ~v(int) none { ret; } }");
        t.dueFault(4, bad + "class B { method f() none { a: ret; try ~a a a Any; } }");
    }

    private void methodsInOrder() {
        t.sentence("METHODS are looked at (5) in order; the first FAULT 5 that is found ends it.");
        String right = "method f%() none { ret; } ";
        for (int n : new int[] {0, 1, 22}) {
            String some = Tester.times(n, right);
            t.dueFault(5, "class A { " + some + "method g() none { ~add; } method h() none { sub; } }");
            t.dueFault(5, "class A { " + some + "virtual g() none { x: ~} method h() none { sub; } }");
            t.dueFault(5, "class A { " + some + "method g() none { ~add; } } class B { method h() none { sub; } }");
        }
        t.dueFault(5, "class A { " + Tester.times(23, right) + "method g() none { ~add; } }");
        t.dueFault(5, "class A { } class B { } class C { virtual v() int { ~ret; } virtual w() int { ret; } }");
        // The first that is found may stand behind others in its method.
        t.dueFault(5, "class A { method f() none { goto b; a: sub; b: ~add; goto a; } }");
    }

    private void firstInstruction() {
        t.sentence("At first INSTRUCTION 0 is come to (a METHOD without any has FAULT 5 at its } ):");
        for (String word : new String[] {"method", "virtual"}) {
            for (String result : new String[] {"none", "int", "ref"}) {
                for (String kinds : new String[] {"", "int", "ref, int"}) {
                    String head = "class A { " + word + " f(" + kinds + ") " + result + " {";
                    t.dueFault(5, head + "~} }");
                    t.dueFault(5, head + " ~} }");
                    t.dueFault(5, head + " # ret;\n~} }");
                    t.dueFault(5, head + " x: y: ~} }");
                }
            }
        }
        t.dueFault(5, code("~add; ret;"));
        t.dueRight(code("ret; add;"), METHODS);
    }

    private void firstStackAndLocals() {
        t.sentence("the STACK is empty, locals from 0 on are the KINDS (a virtual's local 0 is a ref, KINDS from 1 on),"
            + " the others unset.");
        for (String one : new String[] {"pop", "dup", "swap", "store 0", "neg", "throw", "sink 0"}) {
            t.dueFault(5, code("(int, ref) none", "~" + one + "; ret;"));
        }
        String kinds = "irrirr";
        for (int n = 0; n <= 6; n++) {
            String told = kinds.substring(0, n).replace("i", "int, ").replace("r", "ref, ");
            told = n == 0 ? "" : told.substring(0, told.length() - 2);
            locals("method f(" + told + ")", kinds.substring(0, n));
            locals("virtual f(" + told + ")", "r" + kinds.substring(0, n));
        }
    }

    /** What each of the sixteen locals can be loaded as, and whether it can be counted up. */
    private void locals(String head, String kinds) {
        for (int k = 0; k < 16; k++) {
            char kind = k < kinds.length() ? kinds.charAt(k) : 'u';
            String text = "class A { " + head + " none { @ ret; } }";
            String asInt = text.replace("@", "load " + k + "; sink 0;");
            String asRef = text.replace("@", "load " + k + "; is Any; pop;");
            String count = text.replace("@", "inc " + k + " 1;");
            if (kind == 'i') {
                t.dueRight(asInt, 1);
                t.dueFault(5, asRef.replace("is", "~is"));
                t.dueRight(count, 1);
            } else if (kind == 'r') {
                t.dueFault(5, asInt.replace("sink", "~sink"));
                t.dueRight(asRef, 1);
                t.dueFault(5, count.replace("inc", "~inc"));
            } else {
                t.dueFault(5, asInt.replace("load", "~load"));
                t.dueFault(5, count.replace("inc", "~inc"));
            }
        }
    }

    /** Ways that leave local k all that is told, one letter each: an int, a ref, unset. */
    private static String ways(String kinds, int k) {
        StringBuilder all = new StringBuilder();
        for (int i = 0; i < kinds.length(); i++) {
            char kind = kinds.charAt(i);
            all.append(i + 1 < kinds.length() ? "push 1; ifeq w" + i + "; " : "");
            all.append(kind == 'i' ? "push 1; store " + k + "; " : kind == 'r' ? "null; store " + k + "; " : "");
            all.append("goto z; ").append(i + 1 < kinds.length() ? "w" + i + ": " : "");
        }
        return all.append("z: ").toString();
    }

    private void severalKinds() {
        t.sentence("Ahead of an INSTRUCTION that is come to, there are a STACK (a row of kinds) and what each local may be"
            + " (int, ref, unset: one or several of them).");
        for (int k = 0; k < 16; k++) {
            for (String kinds : new String[] {"i", "r", "u", "iu", "ui", "ru", "ur", "ir", "ri", "iru", "uri", "riu"}) {
                String ways = ways(kinds, k);
                // To be several of them is no fault until it is asked for.
                t.dueRight(code(ways + "ret;"), METHODS);
                if (kinds.length() == 1 && !kinds.equals("u")) {
                    t.dueRight(code(ways + "load " + k + "; pop; ret;"), METHODS);
                } else {
                    t.dueFault(5, code(ways + "~load " + k + "; pop; ret;"));
                    t.dueFault(5, code(ways + "~inc " + k + " 1; ret;"));
                }
            }
        }
    }

    /** Locals behind those of the kinds, and those of the kinds themselves. */
    private void severalKindsBehindOthers() {
        String[] heads = {"(int)", "(ref)", "(int, ref)", "(int, int, int, int, int, int)", "(ref, ref, ref, ref, ref, ref)"};
        int[] counts = {1, 1, 2, 6, 6};
        for (int i = 0; i < heads.length; i++) {
            for (int k = 0; k < 16; k++) {
                for (String kinds : new String[] {"iu", "ru", "iru"}) {
                    // Where a way leaves a local of the kinds as it is, it is what the kind says.
                    char first = heads[i].split(", ")[Math.min(k, counts[i] - 1)].contains("int") ? 'i' : 'r';
                    boolean one = k < counts[i] && kinds.replace('u', first).replace(String.valueOf(first), "").isEmpty();
                    String text = code(heads[i] + " none", ways(kinds, k) + "~load " + k + "; pop; ret;");
                    if (one) {
                        t.dueRight(text.replace("~", ""), METHODS);
                    } else {
                        t.dueFault(5, text);
                    }
                }
            }
        }
    }

    private void lowestFirst() {
        t.sentence("Then, as long as there is one that was come to with something new, the lowest of them:");
        t.dueFault(5, code("goto b; a: ~add; b: push 1; ifeq a; sub;"));
        t.dueFault(5, code("push 1; ifeq b; a: ~add; b: sub;"));
        t.dueFault(5, code("goto b; a: push 1; ~throw; b: push 1; ifeq a; sub;"));
        t.dueFault(5, code("push 1; ifeq c; push 1; ifeq b; a: ret; b: ~add; c: sub;"));
        t.dueFault(5, code("goto c; a: ~add; b: ret; c: push 1; ifeq d; push 1; ifeq a; ret; d: sub;"));
        // One that has been looked at, and is come to with something new, too.
        t.dueFault(5, code("(int) none", "x: ~inc 0 1; push 1; ifeq z; null; store 0; goto x; z: add;"));
        t.dueFault(5, code("(int) none", "x: ~load 0; ifeq z; null; store 0; goto x; z: add;"));
        // Of two that a try leads to, the one that is lower, wherever it stands among the tries.
        t.dueFault(5, code("a: push 1; b: ret; c: ~add; d: sub; try a b d Any; try a b c Any;"));
    }

    private void takenKinds() {
        t.sentence("FAULT 5 at it, if the STACK has too few or other kinds than it takes,");
        for (String row : Words.TAKEN_AND_GIVEN) {
            String took = taken(row);
            String rest = word(row) + "; L: " + Words.takes(given(row)) + "ret;";
            t.dueRight(code(Words.pushes(took) + rest), METHODS);
            for (int i = 0; i < took.length(); i++) {
                // Too few, from none on, and one kind that is another.
                t.dueFault(5, code(Words.pushes(took.substring(0, i)) + "~" + rest));
                t.dueFault(5, code(Words.pushes(took.substring(i + 1)) + "~" + rest));
                String other = took.substring(0, i) + (took.charAt(i) == 'i' ? 'r' : 'i') + took.substring(i + 1);
                t.dueFault(5, code(Words.pushes(other) + "~" + rest));
                t.dueFault(5, code(Words.pushes("ir" + other) + "~" + rest));
            }
            if (!given(row).isEmpty()) {
                // What it gives is of the kind that is told, and it leaves what is below.
                String last = given(row).equals("i") ? "~throw; " : "~neg; ";
                t.dueFault(5, code(Words.pushes(took) + word(row) + "; L: " + last + "ret;"));
            }
            t.dueRight(code(Words.pushes("ri" + took) + word(row) + "; L: " + Words.takes("ri" + given(row)) + "ret;"), METHODS);
        }
        for (String one : new String[] {"dup", "pop", "store 5", "throw", "swap"}) {
            t.dueFault(5, code("~" + one + "; ret;"));
        }
        t.dueFault(5, code("push 1; ~swap; ret;"));
        t.dueFault(5, code("null; ~swap; ret;"));
        t.dueFault(5, code("push 1; ~throw;"));
        t.dueRight(code("push 1; dup; add; pop; null; dup; same x; x: ret;"), METHODS);
        t.dueRight(code("push 1; null; swap; sink 0; as A; pop; ret;"), METHODS);
        t.dueFault(5, code("push 1; null; swap; ~as A; ret;"));
    }

    private void sixteen() {
        t.sentence("or would have more than 16,");
        for (String row : Words.TAKEN_AND_GIVEN) {
            for (int depth = 15; depth <= 16; depth++) {
                String below = "iiiiiiiiiiiiiiii".substring(0, depth - taken(row).length());
                boolean fits = below.length() + given(row).length() <= 16;
                String text = code(Words.pushes(below + taken(row)) + "~" + word(row) + "; L: ret;");
                if (fits) {
                    t.dueRight(text.replace("~", ""), METHODS);
                } else {
                    t.dueFault(5, text);
                }
            }
        }
        String fifteen = Words.pushes("rrrrrrrrrrrrrrr");
        t.dueRight(code(fifteen + "null; ret;"), METHODS);
        t.dueFault(5, code(fifteen + "null; ~null; ret;"));
        t.dueRight(code(fifteen + "dup; swap; pop; dup; ret;"), METHODS);
        // All sixteen are still there behind a call that has a stack and locals of its own.
        t.dueRun("class A { method g() none { " + Tester.times(16, "push 50; ") + Tester.times(16, "store %; ")
            + "ret; } method f() int { "
            + Tester.times(16, "push %; ") + "call A g; " + Tester.times(15, "add; ") + "ret; } }", 1, 1, 120, 0);
        t.dueFault(5, code(fifteen + "dup; swap; ~dup; ret;"));
        t.dueRight(code("(int) none", fifteen + "load 0; ret;"), METHODS);
        t.dueFault(5, code("(int) none", fifteen + "load 0; ~load 0; ret;"));
        // An answer of a call that takes nothing is one more, too.
        String called = "class A { method g() ref { null; ret; } virtual v() ref { null; ret; } method f() none { @ ret; } }";
        t.dueRight(called.replace("@", fifteen + "call A g;"), 3);
        t.dueFault(5, called.replace("@", fifteen + "null; ~call A g;"));
        t.dueRight(called.replace("@", fifteen + "null; virt A v;"), 3);
    }

    private void localsThatMustBe() {
        t.sentence("or a local that it loads or incs may be anything but what it must be;");
        for (int k = 0; k < 16; k++) {
            t.dueFault(5, code("~load " + k + "; ret;"));
            t.dueFault(5, code("~inc " + k + " 1; ret;"));
            t.dueFault(5, code("null; store " + k + "; ~inc " + k + " 1; ret;"));
            t.dueRight(code("null; store " + k + "; load " + k + "; throw;"), METHODS);
            t.dueRight(code("push 1; store " + k + "; inc " + k + " 1; load " + k + "; sink 0; ret;"), METHODS);
            int other = (k + 1) % 16;
            t.dueFault(5, code("push 1; store " + k + "; ~load " + other + "; ret;"));
            t.dueFault(5, code("push 1; store " + k + "; ~inc " + other + " 1; ret;"));
        }
    }

    private void needsOfCalls() {
        t.sentence("for ret: a METHOD with a RESULT needs it on top; virt and call need theirs, the last one on top.");
        t.dueRight(code("() int", "null; push 1; ret;"), METHODS);
        t.dueFault(5, code("() int", "push 1; null; ~ret;"));
        t.dueFault(5, code("() int", "~ret;"));
        t.dueRight(code("() ref", "push 1; null; ret;"), METHODS);
        t.dueFault(5, code("() ref", "null; push 1; ~ret;"));
        t.dueFault(5, code("() ref", "~ret;"));
        String kinds = "iriirr";
        for (int n = 0; n <= 6; n++) {
            String some = kinds.substring(0, n);
            String told = n == 0 ? "" : some.replace("i", ", int").replace("r", ", ref").substring(2);
            String text = "class A { method m(" + told + ") int { push 1; ret; } virtual v(" + told + ") none { ret; }"
                + " method f() none { @ ret; } }";
            t.dueRight(text.replace("@", Words.pushes("r" + some) + "call A m; sink 0; throw;"), 3);
            t.dueRight(text.replace("@", Words.pushes("ir" + some) + "virt A v; sink 0;"), 3);
            t.dueFault(5, text.replace("@", Words.pushes("i" + some) + "~virt A v;"));
            for (int i = 0; i < n; i++) {
                String other = some.substring(0, i) + (some.charAt(i) == 'i' ? 'r' : 'i') + some.substring(i + 1);
                t.dueFault(5, text.replace("@", Words.pushes(other) + "~call A m;"));
                t.dueFault(5, text.replace("@", Words.pushes("r" + other) + "~virt A v;"));
                t.dueFault(5, text.replace("@", Words.pushes(some.substring(i + 1)) + "~call A m;"));
            }
        }
    }

    private void whatIsBehind() {
        t.sentence("Else what is behind it is come to: the next INSTRUCTION (not behind goto, ret, throw), the LABEL;");
        for (String row : Words.TAKEN_AND_GIVEN) {
            boolean jump = Words.JUMPS.contains(word(row).split(" ")[0]);
            boolean isGoto = word(row).startsWith("goto");
            String ahead = Words.pushes(taken(row)) + word(row) + "; ";
            // At most one kind is given, so that swap has too few.
            String next = code(ahead + "~swap; L: ret;");
            String label = code(ahead + "ret; L: ~swap;");
            if (isGoto) {
                t.dueRight(next.replace("~", ""), METHODS);
            } else {
                t.dueFault(5, next);
            }
            if (jump) {
                t.dueFault(5, label);
            } else {
                t.dueRight(label.replace("~", ""), METHODS);
            }
        }
        for (String one : new String[] {"ret;", "null; throw;", "x: goto x;", "goto y; y: ret;"}) {
            t.dueRight(code(one + " swap; add;"), METHODS);
        }
        t.dueFault(5, code("push 1; ifeq x; ret; x: ~swap;"));
    }

    private void triesAround() {
        t.sentence("and the INSTRUCTION at each try that it lies in (not ahead of from, ahead of to), with the locals ahead of it"
            + " and a STACK of one ref.");
        // Four places, of which the second and the third lie in the try.
        for (int r = 0; r < 4; r++) {
            String text = code("goto x" + r + "; x0: ret; x1: ret; x2: ret; x3: ret; h: ~add; try x1 x3 h Any;");
            if (r == 1 || r == 2) {
                t.dueFault(5, text);
            } else {
                t.dueRight(text.replace("~", ""), METHODS);
            }
        }
        t.dueFault(5, code("goto x; h: ~swap; x: ret; y: try x y h Any;"));
        t.dueFault(5, code("a: ret; b: ~neg; ret; try a b b Any;"));
        t.dueFault(5, code("a: ret; b: pop; ~pop; ret; try a b b Any;"));
        t.dueRight(code("a: ret; b: throw; try a b b Any;"), METHODS);
        t.dueRight(code("push 1; push 1; a: ret; b: as A; pop; ret; try a b b Any;"), METHODS);
        // Each try that it lies in, whatever its class is.
        for (String name : Words.FIRST_CLASSES) {
            t.dueFault(5, code("a: ret; b: throw; c: ~neg; try a b b Any; try a b c " + name + ";"));
        }
        // The locals ahead: what it stores itself is not yet there, nor gone.
        t.dueFault(5, code("push 1; a: store 0; b: ret; h: ~load 0; ret; try a b h Any;"));
        t.dueRight(code("push 1; store 0; null; a: store 0; b: ret; h: load 0; sink 0; ret; try a b h Any;"), METHODS);
        t.dueFault(5, code("push 1; store 0; null; a: store 0; load 0; b: ret; h: ~load 0; ret; try a b h Any;"));
        t.dueFault(5, code("push 1; store 0; null; store 1; a: inc 0 1; b: ret; h: load 0; ~throw; try a b h Any;"));
    }

    private void endsOfMethods() {
        t.sentence("To come to the end of a METHOD is FAULT 5 at its } .");
        for (String row : Words.TAKEN_AND_GIVEN) {
            if (!word(row).startsWith("goto")) {
                t.dueFault(5, code("goto x; L: ret; x: " + Words.pushes(taken(row)) + word(row) + "; ~"));
            }
        }
        for (String items : new String[] {"push 1;", "push 1; pop;", "goto x; x:", "push 1; ifeq x; ret; x:", "call A n;",
            "a: ret; b: try a b b Any;", "push 1; store 0; inc 0 1; y:"}) {
            t.dueFault(5, code(items + "~"));
        }
        t.dueRight(code("ret; push 1;"), METHODS);
        t.dueRight(code("null; throw; x:"), METHODS);
        t.dueRight(code("x: goto x;"), METHODS);
    }

    private void otherStacks() {
        t.sentence("To come to an INSTRUCTION with another STACK than before is FAULT 5 at it.");
        String sixteen = "iiiiiiiiiiiiiiii";
        for (int depth = 0; depth <= 16; depth++) {
            String one = sixteen.substring(0, depth);
            t.dueRight(code(twoWays(one, one)), METHODS);
            if (depth < 16) {
                t.dueFault(5, code(twoWays(one, one + "i").replace("z: ", "z: ~")));
                t.dueFault(5, code(twoWays("r" + one, one).replace("z: ", "z: ~")));
            }
            for (int i = 0; i < depth; i++) {
                String two = one.substring(0, i) + "r" + one.substring(i + 1);
                t.dueFault(5, code(twoWays(one, two).replace("z: ", "z: ~")));
                t.dueFault(5, code(twoWays(two, one).replace("z: ", "z: ~")));
                t.dueRight(code(twoWays(two, two)), METHODS);
            }
        }
        t.dueFault(5, code("x: ~push 1; goto x;"));
        t.dueRight(code("x: push 1; pop; goto x;"), METHODS);
        // That of a try is one ref, and must be so by other ways, too.
        t.dueFault(5, code("a: push 1; b: ~ret; try a b b Any;"));
        t.dueFault(5, code("push 1; store 0; a: inc 0 1; b: ~ret; try a b b Any;"));
        t.dueRight(code("null; a: as A; b: pop; ret; try a b b Any;"), METHODS);
    }

    /** Two ways to z, each with its stack. */
    private static String twoWays(String one, String two) {
        return "push 1; ifeq y; " + Words.pushes(one) + "goto z; y: " + Words.pushes(two) + "z: ret;";
    }

    private void localsByAnyWay() {
        t.sentence("Locals may be what they may be by any way.");
        String[][] pairs = {{"i", "r"}, {"i", "u"}, {"r", "u"}, {"i", "i"}, {"r", "r"}};
        for (String[] pair : pairs) {
            boolean same = pair[0].equals(pair[1]);
            for (String kinds : new String[] {pair[0] + pair[1], pair[1] + pair[0]}) {
                String text = code(ways(kinds, 3) + "~load 3; pop; ret;");
                if (same) {
                    t.dueRight(text.replace("~", ""), METHODS);
                } else {
                    t.dueFault(5, text);
                }
            }
        }
        // By a way back, by a try, and by a long way.
        t.dueFault(5, code("(int) none", "x: ~load 0; pop; null; store 0; goto x;"));
        t.dueFault(5, code("(int) none", "a: null; store 0; push 1; pop; b: ret; h: ~load 0; ret; try a b h Any;"));
        t.dueFault(5, code("(int) none", "push 1; ifeq a; null; store 0; a: goto b; c: ~load 0; ret; b: push 1; ifeq d; d:"
            + " goto c;"));
    }

    private void somethingNew() {
        t.sentence("Something is new the first time, or when a local may be something more.");
        // Each local that gains a kind makes all that is behind it new: round by round it comes to the first one.
        StringBuilder chain = new StringBuilder();
        StringBuilder head = new StringBuilder();
        for (int k = 0; k < 8; k++) {
            head.append("push 1; store ").append(k).append("; ");
        }
        for (int k = 7; k > 0; k--) {
            chain.append("push 1; ifeq n").append(k).append("; load ").append(k - 1).append("; store ").append(k).append("; n")
                .append(k).append(": ");
        }
        String items = head + "x: " + chain + "push 1; ifeq y; null; store 9; y: push 1; ifeq x; ret;";
        t.dueRight(code(items), METHODS);
        t.dueFault(5, code(items.replace("null; store 9", "null; store 0").replace("load 0;", "~load 0;")));
        // A loop that brings nothing new is looked at once, and no more.
        t.dueRight(code("push 0; store 0; x: inc 0 1; load 0; push 9; cmplt x; ret;"), METHODS);
        t.dueRight(code("x: push 1; store 0; goto x;"), METHODS);
        t.dueFault(5, code("x: push 1; store 0; push 1; ifeq x; null; store 1; y: ~load 2; goto x;"));
    }

    private void loads() {
        t.sentence("(load k takes an int if the local may be an int alone, a ref if a ref alone.)");
        for (int k = 0; k < 16; k++) {
            t.dueRight(code("push 1; store " + k + "; load " + k + "; neg; pop; ret;"), METHODS);
            t.dueFault(5, code("push 1; store " + k + "; load " + k + "; ~throw;"));
            t.dueRight(code("null; store " + k + "; load " + k + "; throw;"), METHODS);
            t.dueFault(5, code("null; store " + k + "; load " + k + "; ~neg; pop; ret;"));
            for (String kinds : new String[] {"ir", "iu", "ru", "iru"}) {
                t.dueFault(5, code(ways(kinds, k) + "~load " + k + "; pop; ret;"));
            }
        }
    }

    private void orderAtOneInstruction() {
        t.sentence("CODE: of an INSTRUCTION first its own STACK and locals are asked, then the STACK behind it (16),"
            + " then what comes behind, in the order next, LABEL, tries of the text.");
        String sixteen = Words.pushes("iiiiiiiiiiiiiiii");
        // Its own stack, locals, and the stack behind it ahead of the end that is next.
        t.dueFault(5, code("~add;"));
        t.dueFault(5, code("~load 3;"));
        t.dueFault(5, code("~inc 3 1;"));
        t.dueFault(5, code(sixteen + "~push 1;"));
        t.dueFault(5, code(sixteen + "~dup;"));
        // Its own ahead of a label that has another stack.
        t.dueFault(5, code("x: push 1; push 1; null; ~ifeq x;"));
        // The next ahead of the label, the label ahead of tries, the next ahead of tries.
        t.dueFault(5, code("x: push 1; push 1; ifeq x; ~"));
        t.dueFault(5, code("x: ~push 1; ifeq h; push 1; push 1; goto y; h: ret; y: ifeq x; ret; z: try y z h Any;"));
        t.dueFault(5, code("push 1; ifeq n; push 1; ifeq h; y: push 1; n: ~ret; h: ret; try y n h Any;"));
        t.dueFault(5, code("push 1; ifeq h; y: push 1; pop; n: try y n h Any; h: ~ret;"));
        // Tries as they stand in the text, wherever their instructions are.
        String two = "push 1; ifeq h; push 1; ifeq g; y: ret; h: ret; g: ret; ";
        t.dueFault(5, code(two.replace("h: ret", "h: ~ret") + "try y h h Any; try y h g Any;"));
        t.dueFault(5, code(two.replace("g: ret", "g: ~ret") + "try y h g Any; try y h h Any;"));
        t.dueFault(5, code("try y h g Any; try y h h Any; " + two.replace("g: ret", "g: ~ret")));
    }

    private void everyInstructionInATry() {
        t.sentence("Every INSTRUCTION comes to its tries' at, also goto, ret, throw and those that throw nothing.");
        String rest = "h: ~neg; try a b h Any;";
        for (String row : Words.TAKEN_AND_GIVEN) {
            t.dueFault(5, code(Words.pushes(taken(row)) + "a: " + word(row) + "; b: L: ret; " + rest));
        }
        for (String row : new String[] {"i:dup", "r:dup", "i:pop", "ir:swap", "i:store 0", "r:throw", ":ret", "i:ret", ":load 0",
            ":inc 0 1"}) {
            String ahead = Words.pushes(row.substring(0, row.indexOf(':')));
            t.dueFault(5, code("(int) none", ahead + "a: " + row.substring(row.indexOf(':') + 1) + "; b: ret; " + rest));
        }
        t.dueFault(5, code("() int", "push 1; a: ret; b: " + rest));
        t.dueFault(5, code("() ref", "null; a: ret; b: " + rest));
        // One that is never come to leads nowhere.
        t.dueRight(code("ret; a: null; throw; b: h: neg; try a b h Any;"), METHODS);
    }

    private void stores() {
        t.sentence("store makes the local just this kind.");
        for (int k = 0; k < 16; k++) {
            for (String kinds : new String[] {"u", "i", "r", "iu", "ru", "ir", "iru"}) {
                t.dueRight(code(ways(kinds, k) + "push 1; store " + k + "; inc " + k + " 1; load " + k + "; sink 0; ret;"),
                    METHODS);
                t.dueRight(code(ways(kinds, k) + "null; store " + k + "; load " + k + "; throw;"), METHODS);
            }
            t.dueFault(5, code("push 1; store " + k + "; null; store " + k + "; ~inc " + k + " 1; ret;"));
            t.dueFault(5, code("null; store " + k + "; push 1; store " + k + "; load " + k + "; ~throw;"));
        }
        t.dueRight(code("(int, ref) none", "null; store 0; push 1; store 1; load 1; sink 0; load 0; throw;"), METHODS);
    }

    private void returns() {
        t.sentence("ret of a METHOD without a RESULT takes any STACK; with one the RESULT on top, anything below.");
        String[] stacks = {"", "i", "r", "ir", "ri", "iiiiiiiiiiiiiiii", "rrrrrrrrrrrrrrrr", "iriririririririr"};
        for (String stack : stacks) {
            t.dueRight(code(Words.pushes(stack) + "ret;"), METHODS);
            if (stack.length() < 16) {
                t.dueRight(code("() int", Words.pushes(stack + "i") + "ret;"), METHODS);
                t.dueRight(code("() ref", Words.pushes(stack + "r") + "ret;"), METHODS);
                t.dueFault(5, code("() int", Words.pushes(stack + "r") + "~ret;"));
                t.dueFault(5, code("() ref", Words.pushes(stack + "i") + "~ret;"));
            }
        }
        t.dueFault(5, code("() int", "~ret;"));
        t.dueFault(5, code("() ref", "~ret;"));
        // What is below is gone with the method.
        t.dueRun("class A { method f() int { push 1; push 2; call A g; add; ret; } method g() int { push 5; null; push 7; ret; } }",
            0, 1, 9, 0);
    }

    private void placesOnTheStack() {
        t.sentence("put takes the ref below the VALUE; iput, rput the ref, the index, the VALUE on top;"
            + " virt the ref below its KINDS.");
        String[] rows = {"put A x:ri", "iput:rii", "rput:rir", "virt A v:rri"};
        for (String row : rows) {
            String word = row.substring(0, row.indexOf(':'));
            String kinds = row.substring(row.indexOf(':') + 1);
            String drop = word.startsWith("virt") ? "pop; " : "";
            for (int mask = 0; mask < 1 << kinds.length(); mask++) {
                StringBuilder some = new StringBuilder();
                for (int i = 0; i < kinds.length(); i++) {
                    some.append((mask >> i & 1) != 0 ? 'r' : 'i');
                }
                String text = code(Words.pushes(some.toString()) + "~" + word + "; " + drop + "ret;");
                if (some.toString().equals(kinds)) {
                    t.dueRight(text.replace("~", ""), METHODS);
                } else {
                    t.dueFault(5, text);
                }
            }
        }
        String text = "class A { field r ref; virtual v(ref, int) int { load 0; load 1; same x; load 2; ret; x: push 99; ret; }"
            + " method a() none { new A; new A; put A r; ret; } method b() none { push 9; ints; push 3; push 5; iput; ret; }"
            + " method c() none { push 2; refs; push 1; new A; rput; ret; } method d() int { new A; new A; push 8; virt A v;"
            + " ret; } }";
        TaintHouse house = t.house(text);
        t.due("run(1)", house.run(1), 0);
        t.due("slot(0, 0, 0)", house.slot(0, 0, 0), 1);
        t.due("slot(1, 0, 0)", house.slot(1, 0, 0), -1);
        t.due("run(2)", house.run(2), 0);
        t.due("slot(0, 3, 0)", house.slot(0, 3, 0), 5);
        t.due("slot(0, 5, 0)", house.slot(0, 5, 0), 0);
        t.due("run(3)", house.run(3), 0);
        t.due("slot(0, 1, 0)", house.slot(0, 1, 0), 1);
        t.due("slot(0, 0, 0)", house.slot(0, 0, 0), -1);
        t.dueRun(house, text, 4, 1, 8, 0);
    }

    private void nothingOnTheStack() {
        t.sentence("method(m, 5) is 0 where no STACK has anything.");
        String[] none = {"ret;", "x: goto x;", "goto x; x: ret;", "inc 0 1; ret;", "ret; push 1; push 2; ret;", "call B g; ret;",
            "ret; a: ret; b: pop; ret; try a b b Any;"};
        TaintHouse used = new TaintHouse();
        for (String items : none) {
            String text = "class A { method f(int) none { " + items + " } } class B { method g() none { ret; } }";
            t.due("method(0, 5) of " + items, t.house(text).method(0, 5), 0);
            // Also where texts that were read ahead of it have more, or a fault that ends looking at them.
            Tester.read(used, code(Words.pushes("iiiiiiii") + "ret;").replace("push 1; ret;", "push 1; push 1; ret;"));
            Tester.read(used, code(Words.pushes("iiiiiiii") + "ret;").replace("push 1; ret;", "push 1; push 1; ret;"));
            Tester.read(used, "class A { method f() none { push 1; ifeq b; add; b: push 1; push 1; ret; } }");
            t.due("text()", Tester.read(used, text), 2);
            t.due("method(0, 5) of " + items, used.method(0, 5), 0);
        }
        TaintHouse house = t.house("class A { method f(int) none { push 1; ret; } method g() none { a: ret; b: pop; ret;"
            + " try a b b Any; } }");
        t.due("method(0, 5)", house.method(0, 5), 1);
        t.due("method(1, 5)", house.method(1, 5), 1);
    }
}
