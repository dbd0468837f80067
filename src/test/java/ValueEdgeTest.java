/** Values and their marks, sentence by sentence: what instructions make of them, with and without flows. */
public final class ValueEdgeTest {
    private static final int LEAST = Integer.MIN_VALUE;
    private static final int MOST = Integer.MAX_VALUE;
    private final Tester t;

    ValueEdgeTest(Tester tester) {
        t = tester;
    }

    public static void main(String[] args) {
        Tester tester = new Tester();
        new ValueEdgeTest(tester).all();
        tester.finish();
    }

    void all() {
        thirtyTwoBits();
        sixteenMarks();
        held();
        atFirst();
        withoutMarks();
        carried();
        marksOfBoth();
        divisions();
        shifts();
        theOneBelow();
        againstZero();
        twoInts();
        refs();
        objectsAndStatics();
        arrays();
        lengths();
        readAndWritten();
        asked();
        flowOfIndex();
        flowOfReadRef();
        flowOfWrittenRef();
        cleanAndMark();
        sources();
        sinks();
        whatAnObjectIs();
        mustBeObjects();
        mustBeArrays();
        callsAndReturns();
    }

    private static String push(int number) {
        return number < 0 ? "push - " + -(long) number + "; " : "push " + number + "; ";
    }

    private void sum(int left, int right, String word, int want) {
        t.dueInt(push(left) + push(right) + word + "; ret;", want, 0);
    }

    private void thirtyTwoBits() {
        t.sentence("A VALUE: an int (32 bits), or a ref: null, an OBJECT, an ARRAY of ints or of refs.");
        int[] numbers = {LEAST, LEAST + 1, -65536, -2, -1, 0, 1, 2, 46341, 65536, MOST - 1, MOST};
        for (int left : numbers) {
            for (int right : numbers) {
                sum(left, right, "add", left + right);
                sum(left, right, "sub", left - right);
                sum(left, right, "mul", left * right);
                sum(left, right, "and", left & right);
                sum(left, right, "or", left | right);
                sum(left, right, "xor", left ^ right);
            }
            t.dueInt(push(left) + "neg; ret;", -left, 0);
            t.dueInt(push(left) + "store 0; inc 0 32767; load 0; ret;", left + 32767, 0);
            t.dueInt(push(left) + "store 0; inc 0 - 32767; load 0; ret;", left - 32767, 0);
            TaintHouse house = t.house("class A { method f(int) int { source 3; load 0; sink 2; ret; } }");
            house.input(3, left);
            house.argument(0, left, 0);
            t.due("run(0)", house.run(0), 1);
            t.due("result(1)", house.result(1), left);
            t.due("event(0, 1)", house.event(0, 1), left);
        }
        t.sentence("add sub mul div rem and or xor shl shr ushr; neg;");
        sum(MOST, 1, "add", LEAST);
        sum(LEAST, 1, "sub", MOST);
        sum(LEAST, -1, "mul", LEAST);
        sum(65536, 65536, "mul", 0);
        sum(12, 10, "and", 8);
        sum(12, 10, "or", 14);
        sum(12, 10, "xor", 6);
        sum(-1, 28, "ushr", 15);
        sum(-1, 28, "shr", -1);
        t.dueInt(push(LEAST) + "neg; ret;", LEAST, 0);
        t.dueInt(push(0) + "neg; ret;", 0, 0);
    }

    private void sixteenMarks() {
        t.sentence("Each VALUE has MARKS, 16 bits.");
        StringBuilder all = new StringBuilder("push 0; ");
        for (int k = 0; k < 16; k++) {
            all.append("source ").append(k).append("; add; ");
            t.dueInt(all + "ret;", (k + 1) * (k + 2) / 2, (2 << k) - 1);
        }
        t.dueInt("push 0; mark 65535; ret;", 0, 65535);
        t.dueInt("push 0; mark 32768; ret;", 0, 32768);
        t.dueInt("push 0; mark 32768; mark 32767; clean 1; ret;", 0, 65534);
        TaintHouse house = t.house("class A { method f(int) int { load 0; ret; } }");
        int[] given = {0, 1, 32768, 65535, 65536, 65537, -1, LEAST, MOST, -65536};
        int[] kept = {0, 1, 32768, 65535, 0, 1, 65535, 0, 65535, 0};
        for (int i = 0; i < given.length; i++) {
            house.argument(0, 5, given[i]);
            house.run(0);
            t.due("marks of an argument with " + given[i], house.result(2), kept[i]);
        }
    }

    private void held() {
        t.sentence("A FIELD, static, element, LENGTH of an array holds a VALUE with its MARKS.");
        String text = "class A { field x int; field r ref; static s int; static q ref; method f(int, ref) none { new A;"
            + " store 5; load 5; load 0; put A x; load 5; load 1; put A r; load 0; puts A s; load 1; puts A q; push 3; ints;"
            + " store 6; load 6; push 1; load 0; iput; push 3; refs; store 7; load 7; push 2; load 1; rput; load 0; ints; pop;"
            + " ret; } }";
        TaintHouse house = t.house(text);
        house.argument(0, 4, 65535);
        house.argument(1, 4, 32769);
        t.due("run(0)", house.run(0), 0);
        int[][] cells = {{0, 0, 4, 65535}, {0, 1, -1, 32769}, {1, 0, 0, 0}, {1, 1, 4, 65535}, {1, 2, 0, 0}, {2, 1, -1, 0},
            {2, 2, -1, 32769}, {3, 0, 0, 0}};
        for (int[] cell : cells) {
            t.due("slot(" + cell[0] + ", " + cell[1] + ", 0)", house.slot(cell[0], cell[1], 0), cell[2]);
            t.due("slot(" + cell[0] + ", " + cell[1] + ", 1)", house.slot(cell[0], cell[1], 1), cell[3]);
        }
        t.due("stat(0, 0)", house.stat(0, 0), 4);
        t.due("stat(0, 1)", house.stat(0, 1), 65535);
        t.due("stat(1, 0)", house.stat(1, 0), -1);
        t.due("stat(1, 1)", house.stat(1, 1), 32769);
        t.due("object(3, 2)", house.object(3, 2), 65535);
        t.due("object(1, 2)", house.object(1, 2), 0);
    }

    private void atFirst() {
        t.sentence("At first they are 0, null, without MARKS.");
        String fields = "field a int; field b ref; field c ref; field d int; ";
        String text = "class A { " + fields + "static s int; static q ref; method fill(int) none { load 0; ints; store 1;"
            + " push 0; store 2; x: load 1; load 2; load 0; iput; inc 2 1; load 2; load 0; cmplt x; load 0; puts A s; new A;"
            + " puts A q; ret; } method make() none { push 5; refs; pop; push 5; ints; pop; new B; pop; push 0; ints; pop;"
            + " new A; pop; ret; } } class B : A { field e int; field f ref; }";
        TaintHouse house = t.house(text);
        house.argument(0, 1000, 65535);
        // What the first run leaves must not be seen in what the second one makes at the same place.
        for (int round = 0; round < 2; round++) {
            t.due("run(0)", house.run(0), 0);
            t.due("stat(0, 1)", house.stat(0, 1), 65535);
            t.due("run(1)", house.run(1), 0);
            int[][] want = {{-1, -1, -1, -1, -1}, {0, 0, 0, 0, 0}, {0, -1, -1, 0, 0, -1}, {}, {0, -1, -1, 0}};
            for (int i = 0; i < want.length; i++) {
                t.due("object(" + i + ", 1)", house.object(i, 1), want[i].length);
                t.due("object(" + i + ", 2)", house.object(i, 2), 0);
                for (int k = 0; k < want[i].length; k++) {
                    t.due("slot(" + i + ", " + k + ", 0)", house.slot(i, k, 0), want[i][k]);
                    t.due("slot(" + i + ", " + k + ", 1)", house.slot(i, k, 1), 0);
                }
            }
            t.due("stat(0, 0)", house.stat(0, 0), 0);
            t.due("stat(0, 1)", house.stat(0, 1), 0);
            t.due("stat(1, 0)", house.stat(1, 0), -1);
            t.due("stat(1, 1)", house.stat(1, 1), 0);
        }
    }

    private void withoutMarks() {
        t.sentence("push, null, new, ints, refs: without MARKS (of the ref).");
        // Each stands where a value with marks stood.
        String ahead = "source 1; pop; source 2; store 0; ";
        t.dueInt(ahead + "push 5; ret;", 5, 0);
        t.dueInt(ahead + "null; is Any; ret;", 0, 0);
        t.dueInt(ahead + "new A; is Any; ret;", 1, 0);
        t.dueInt("source 1; ints; is Any; ret;", 1, 0);
        t.dueInt("source 1; refs; is Any; ret;", 1, 0);
        t.dueInt(ahead + "push 5; store 0; load 0; ret;", 5, 0);
    }

    private void carried() {
        t.sentence("load, store, dup, pop, swap, calls, ret carry VALUES with their MARKS; inc leaves them.");
        t.dueInt("source 3; store 15; source 4; store 0; load 15; ret;", 4, 8);
        t.dueInt("source 3; store 15; source 4; store 15; load 15; ret;", 5, 16);
        t.dueInt("source 3; dup; source 4; pop; pop; ret;", 4, 8);
        t.dueInt("source 3; dup; mark 1; pop; ret;", 4, 8);
        t.dueInt("source 3; source 4; swap; ret;", 4, 8);
        t.dueInt("source 3; source 4; swap; pop; ret;", 5, 16);
        t.dueInt("source 3; store 2; inc 2 32767; load 2; ret;", 32771, 8);
        t.dueInt("source 3; store 2; inc 2 - 32767; load 2; ret;", -32763, 8);
        t.dueInt("push 3; store 2; inc 2 1; load 2; ret;", 4, 0);
        String text = "class A { method six(int, ref, int, ref, int, ref) int { load 0; sink 0; load 1; is Any; sink 1; load 2;"
            + " sink 2; load 3; is Any; sink 3; load 4; sink 4; load 5; is Any; sink 5; load 4; ret; } virtual seven(int, ref,"
            + " int, ref, int, ref) ref { load 1; load 2; load 3; load 4; load 5; load 6; call A six; pop; load 2; ret; }"
            + " method f(int, ref, int, ref, int, ref) ref { new A; load 0; load 1; load 2; load 3; load 4; load 5;"
            + " virt A seven; ret; } }";
        TaintHouse house = t.house(text);
        for (int i = 0; i < 6; i++) {
            house.argument(i, 10 + i, 1 << 2 * i);
        }
        t.dueRun(house, text, 2, 2, -1, 4);
        for (int i = 0; i < 6; i++) {
            t.due("event(" + i + ", 1)", house.event(i, 1), i % 2 == 0 ? 10 + i : 0);
            t.due("event(" + i + ", 2)", house.event(i, 2), 1 << 2 * i);
        }
    }

    private void marksOfBoth() {
        t.sentence("add .. ushr: the MARKS of both; neg: as they are.");
        for (String word : "add sub mul div rem and or xor shl shr ushr".split(" ")) {
            TaintHouse house = t.house("class A { method f(int, int) int { load 0; load 1; " + word + "; ret; } }");
            int[][] marks = {{0, 0}, {1, 0}, {0, 32768}, {1, 32768}, {3, 6}, {65535, 65535}};
            for (int[] pair : marks) {
                // Also where what one of them is makes no difference.
                for (int left : new int[] {0, 9}) {
                    house.argument(0, left, pair[0]);
                    house.argument(1, 1, pair[1]);
                    t.due("run(0)", house.run(0), 1);
                    t.due("marks of " + word, house.result(2), pair[0] | pair[1]);
                }
            }
        }
        t.dueInt("source 15; push 0; mul; ret;", 0, 32768);
        t.dueInt("source 15; neg; ret;", -16, 32768);
        t.dueInt("push 1; neg; ret;", -1, 0);
        t.dueInt("source 1; mark 65535; neg; ret;", -2, 65535);
    }

    private void divisions() {
        t.sentence("/ and % as in Java (the least int by -1: itself, 0);");
        sum(LEAST, -1, "div", LEAST);
        sum(LEAST, -1, "rem", 0);
        int[] numbers = {LEAST, LEAST + 1, -8, -7, -1, 0, 1, 7, 8, MOST};
        int[] divisors = {LEAST, -3, -2, -1, 1, 2, 3, MOST};
        for (int left : numbers) {
            for (int right : divisors) {
                long whole = (long) left / right;
                sum(left, right, "div", (int) whole);
                sum(left, right, "rem", (int) (left - whole * right));
            }
        }
        sum(-7, 2, "div", -3);
        sum(-7, 2, "rem", -1);
        sum(7, -2, "rem", 1);
    }

    private void shifts() {
        t.sentence("shl, shr, ushr by the lowest five bits.");
        int[] numbers = {LEAST, -8, -1, 0, 1, 7, MOST};
        int[] counts = {0, 1, 2, 30, 31, 32, 33, 63, 64, 65, 1 << 30, -1, -31, -32, -33, LEAST, MOST};
        for (int number : numbers) {
            for (int count : counts) {
                int five = count & 31;
                long unsigned = number & 0xFFFFFFFFL;
                sum(number, count, "shl", (int) (unsigned << five));
                sum(number, count, "shr", (int) ((long) number >> five));
                sum(number, count, "ushr", (int) (unsigned >> five));
            }
        }
        sum(1, 32, "shl", 1);
        sum(1, -1, "shl", LEAST);
    }

    private void theOneBelow() {
        t.sentence("Of two VALUES the one below is the first: 7 and then 2 on top of it: sub makes 5, div 3, rem 1, shl 28,"
            + " shr 1; cmpgt, cmpge L go to L, cmplt, cmple don't.");
        sum(7, 2, "sub", 5);
        sum(7, 2, "div", 3);
        sum(7, 2, "rem", 1);
        sum(7, 2, "shl", 28);
        sum(7, 2, "shr", 1);
        sum(7, 2, "ushr", 1);
        t.dueInt("push 7; push 2; cmpgt L; push 10; ret; L: push 20; ret;", 20, 0);
        t.dueInt("push 7; push 2; cmpge L; push 10; ret; L: push 20; ret;", 20, 0);
        t.dueInt("push 7; push 2; cmplt L; push 10; ret; L: push 20; ret;", 10, 0);
        t.dueInt("push 7; push 2; cmple L; push 10; ret; L: push 20; ret;", 10, 0);
    }

    private static final String WHERE = " L; push 10; ret; L: push 20; ret;";
    private static final String[] TESTS = {"eq", "ne", "lt", "ge", "gt", "le"};

    private static boolean holds(String test, long left, long right) {
        switch (test) {
            case "eq": return left == right;
            case "ne": return left != right;
            case "lt": return left < right;
            case "ge": return left >= right;
            case "gt": return left > right;
            default: return left <= right;
        }
    }

    private void againstZero() {
        t.sentence("goto L; ifeq L, ifne, iflt, ifge, ifgt, ifle (an int against 0);");
        t.dueInt("goto" + WHERE, 20, 0);
        for (String test : TESTS) {
            for (int n : new int[] {LEAST, -1, 0, 1, MOST}) {
                t.dueInt(push(n) + "if" + test + WHERE, holds(test, n, 0) ? 20 : 10, 0);
            }
        }
    }

    private void twoInts() {
        t.sentence("cmpeq L, cmpne, cmplt, cmpge, cmpgt, cmple (two ints);");
        int[] numbers = {LEAST, LEAST + 1, -1, 0, 1, MOST - 1, MOST};
        for (String test : TESTS) {
            for (int left : numbers) {
                for (int right : numbers) {
                    t.dueInt(push(left) + push(right) + "cmp" + test + WHERE, holds(test, left, right) ? 20 : 10, 0);
                }
            }
        }
        // A jump takes the marks of what it looks at nowhere.
        t.dueInt("source 1; ifne" + WHERE, 20, 0);
        t.dueInt("source 1; source 2; cmplt" + WHERE, 20, 0);
    }

    private void refs() {
        t.sentence("ifnull L, ifsome L; same L, other L (two refs);");
        // The first object, an array and a fault are some; null alone is none.
        String[] some = {"new A; ", "push 0; ints; ", "push 0; refs; ", "new Any; ", "new NullFault; "};
        t.dueInt("null; ifnull" + WHERE, 20, 0);
        t.dueInt("null; ifsome" + WHERE, 10, 0);
        t.dueInt("null; null; same" + WHERE, 20, 0);
        t.dueInt("null; null; other" + WHERE, 10, 0);
        for (String one : some) {
            t.dueInt(one + "ifnull" + WHERE, 10, 0);
            t.dueInt(one + "ifsome" + WHERE, 20, 0);
            t.dueInt(one + "dup; same" + WHERE, 20, 0);
            t.dueInt(one + "dup; other" + WHERE, 10, 0);
            t.dueInt(one + "null; same" + WHERE, 10, 0);
            t.dueInt("null; " + one + "other" + WHERE, 20, 0);
            for (String two : some) {
                t.dueInt(one + two + "same" + WHERE, 10, 0);
                t.dueInt(one + two + "other" + WHERE, 20, 0);
            }
        }
        t.dueInt("new A; store 0; load 0; load 0; put A r; load 0; get A r; load 0; same" + WHERE, 20, 0);
    }

    private void objectsAndStatics() {
        t.sentence("new C; get C NAME; put C NAME (fields); gets C NAME; puts C NAME (statics);");
        String fields = Tester.times(8, "field x% int; ");
        String statics = Tester.times(16, "static s% int; ");
        StringBuilder write = new StringBuilder("new B; store 0; ");
        for (int k = 0; k < 8; k++) {
            write.append("load 0; push ").append(10 + k).append("; put A x").append(k).append("; ");
        }
        StringBuilder more = new StringBuilder();
        for (int k = 0; k < 8; k++) {
            more.append("load 0; push ").append(20 + k).append("; put B x").append(k).append("; ");
        }
        StringBuilder told = new StringBuilder();
        for (int k = 0; k < 16; k++) {
            told.append("push ").append(30 + k).append("; mark ").append(1 << k).append("; puts A s").append(k).append("; ");
        }
        String text = "class A { " + fields + statics + "} class B : A { " + fields + "} class M { method f() int { " + write
            + more
            + "load 0; get A x7; load 0; get B x7; mul; ret; } method g() int { " + told + "gets B s15; ret; } }";
        TaintHouse house = t.house(text);
        t.dueRun(house, text, 0, 1, 17 * 27, 0);
        for (int k = 0; k < 16; k++) {
            t.due("slot(0, " + k + ", 0)", house.slot(0, k, 0), k < 8 ? 10 + k : 12 + k);
        }
        t.due("slot(0, 16, 0)", house.slot(0, 16, 0), -1);
        t.dueRun(house, text, 1, 1, 45, 32768);
        for (int k = 0; k < 16; k++) {
            t.due("stat(" + k + ", 0)", house.stat(k, 0), 30 + k);
            t.due("stat(" + k + ", 1)", house.stat(k, 1), 1 << k);
        }
        t.due("stat(16, 0)", house.stat(16, 0), -1);
    }

    private void arrays() {
        t.sentence("ints; refs (arrays, of a length); iget; iput; rget; rput; length;");
        for (int length : new int[] {0, 1, 2, 100, 2998, 2999}) {
            t.dueInt(push(length) + "ints; length; ret;", length, 0);
            t.dueInt(push(length) + "refs; length; ret;", length, 0);
        }
        for (int index : new int[] {0, 1, 8, 9}) {
            String at = push(index);
            t.dueInt("push 10; ints; store 0; load 0; " + at + "push 77; iput; load 0; " + at + "iget; ret;", 77, 0);
            t.dueInt("push 10; refs; store 0; load 0; " + at + "load 0; rput; load 0; " + at + "rget; length; ret;", 10, 0);
        }
        TaintHouse house = t.dueInt("push 3; ints; dup; push 0; push 5; iput; dup; push 2; push 6; iput; push 1; iget; ret;", 0,
            0);
        int[] want = {5, 0, 6};
        for (int k = 0; k < 3; k++) {
            t.due("slot(0, " + k + ", 0)", house.slot(0, k, 0), want[k]);
        }
    }

    private void lengths() {
        t.sentence("ints, refs: the LENGTH has the number's MARKS.");
        for (String word : new String[] {"ints", "refs"}) {
            for (int marks : new int[] {0, 1, 32768, 65535}) {
                String ahead = "push 2; mark " + marks + "; " + word + "; ";
                TaintHouse house = t.dueInt(ahead + "length; ret;", 2, marks);
                t.due("object(0, 2)", house.object(0, 2), marks);
                t.due("slot(0, 0, 1)", house.slot(0, 0, 1), 0);
                t.dueInt(ahead + "is Any; ret;", 1, 0);
            }
        }
        t.sentence("length: the LENGTH's.");
        t.dueInt("source 1; ints; dup; push 0; source 5; iput; length; ret;", 2, 2);
        t.dueInt("push 1; ints; dup; push 0; source 5; iput; length; ret;", 1, 0);
    }

    private void readAndWritten() {
        t.sentence("get: the FIELD's; put: the VALUE's come into the FIELD.");
        String field = "new A; store 0; load 0; source 3; put A x; ";
        t.dueInt(field + "load 0; get A x; ret;", 4, 8);
        t.dueInt(field + "load 0; source 5; put A x; load 0; get A x; ret;", 6, 32);
        t.dueInt(field + "load 0; push 5; put A x; load 0; get A x; ret;", 5, 0);
        t.dueInt(field + "load 0; get A r; is Any; ret;", 0, 0);
        t.sentence("iget, rget: the element's; iput, rput: the VALUE's come into the element.");
        String element = "push 2; ints; store 0; load 0; push 1; source 3; iput; ";
        t.dueInt(element + "load 0; push 1; iget; ret;", 4, 8);
        t.dueInt(element + "load 0; push 0; iget; ret;", 0, 0);
        t.dueInt(element + "load 0; push 1; source 5; iput; load 0; push 1; iget; ret;", 6, 32);
        t.dueInt(element + "load 0; push 1; push 5; iput; load 0; push 1; iget; ret;", 5, 0);
        t.dueInt(element + "load 0; source 0; iget; ret;", 4, 8);
        String text = "class A { method f(ref) int { push 2; refs; store 1; load 1; push 1; load 0; rput; load 1; push 1; rget;"
            + " is Any; ret; } method g(ref) int { push 2; refs; store 1; load 1; push 1; load 0; rput; load 1; push 1; null;"
            + " rput; load 1; push 1; rget; is Any; ret; } method h(ref) int { push 2; refs; store 1; load 1; push 1; load 0;"
            + " rput; load 1; push 0; rget; is Any; ret; } }";
        TaintHouse house = t.house(text);
        house.argument(0, 0, 65535);
        t.dueRun(house, text, 0, 1, 0, 65535);
        t.dueRun(house, text, 1, 1, 0, 0);
        t.dueRun(house, text, 2, 1, 0, 0);
    }

    private void asked() {
        t.sentence("is: 1 or 0 (null: 0), the ref's MARKS; as: as it is.");
        String text = "class A { method f(ref) int { load 0; is Any; ret; } method g(ref) ref { load 0; as CastFault; ret; }"
            + " method h() int { a: source 2; push 0; div; ret; b: is Fault; ret; try a b b Any; }"
            + " method i() int { a: source 2; push 0; div; ret; b: is NullFault; ret; try a b b Any; }"
            + " method j() ref { a: source 2; push 0; div; pop; null; ret; b: as Fault; ret; try a b b Any; } }";
        TaintHouse house = t.house(text);
        house.argument(0, 1, 65535);
        t.dueRun(house, text, 0, 1, 0, 65535);
        t.dueRun(house, text, 1, 2, -1, 65535);
        t.dueRun(house, text, 2, 1, 1, 4);
        t.dueRun(house, text, 3, 1, 0, 4);
        t.dueRun(house, text, 4, 2, 0, 4);
        t.dueInt("null; is Any; ret;", 0, 0);
        t.dueInt("new A; is A; ret;", 1, 0);
    }

    /**
     * Local 0 is an object with marks 4 in field x, local 1 an array of ints with marks 32 of its length and 64 in element 1,
     * local 2 one of refs with null with marks 128 in element 1; locals 3 to 5 are the same. With bit 1 of flows the refs in
     * locals 0 to 2 have marks 1, 2 and 8, those of the indices by which they were got; the index's marks are 16, a value's 256.
     */
    private void flows(String code, int always, int index, int read, int written) {
        String text = "class A { field x int; field r ref; method f(ref) int { push 3; refs; store 9; load 9; push 0; new A;"
            + " rput; load 9; push 1; source 5; ints; rput; load 9; push 2; push 3; refs; rput; load 9; push 0; rget; store 3;"
            + " load 9; push 1; rget; store 4; load 9; push 2; rget; store 5; load 4; push 1; push 0; mark 64; iput; load 5;"
            + " push 1; load 0; rput; load 3; push 0; mark 4; put A x; load 9; push 0; mark 1; rget; store 0; load 9; push 1;"
            + " mark 2; rget; store 1; load 9; push 2; mark 8; rget; store 2; " + code + " ret; } }";
        TaintHouse house = t.house(text);
        house.input(4, 1);
        house.input(5, 3);
        house.argument(0, 0, 128);
        for (int flows = 0; flows < 8; flows++) {
            int want = always;
            if ((flows & 1) != 0) {
                want |= index | ((flows & 2) != 0 ? read : 0) | ((flows & 4) != 0 ? written : 0);
            }
            house.flows(flows);
            t.due("run(0) with " + code, house.run(0), 1);
            t.due("marks with flows " + flows + " of " + code, house.result(2), want);
        }
    }

    private void flowOfIndex() {
        t.sentence("FLOWS add to these: bit 1: iget, rget also the index's; iput, rput also the index's into the element.");
        flows("load 4; source 4; iget;", 64, 16, 0, 0);
        flows("load 4; push 1; iget;", 64, 0, 0, 0);
        flows("load 5; source 4; rget; is Any;", 128, 16, 0, 0);
        flows("load 4; source 4; push 0; mark 256; iput; load 4; push 1; iget;", 256, 16, 0, 0);
        flows("load 4; source 4; push 0; iput; load 4; push 1; iget;", 0, 16, 0, 0);
        flows("load 4; source 4; push 0; iput; load 4; push 0; iget;", 0, 0, 0, 0);
        flows("load 5; source 4; null; rput; load 5; push 1; rget; is Any;", 0, 16, 0, 0);
        flows("load 5; source 4; null; rput; load 5; push 2; rget; is Any;", 0, 0, 0, 0);
    }

    private void flowOfReadRef() {
        t.sentence("Bit 2: get, iget, rget, length also the ref's.");
        flows("load 0; get A x;", 4, 0, 1, 0);
        flows("load 0; get A r; is Any;", 0, 0, 1, 0);
        flows("load 1; push 1; iget;", 64, 0, 2, 0);
        flows("load 1; source 4; iget;", 64, 16, 2, 0);
        flows("load 2; push 1; rget; is Any;", 128, 0, 8, 0);
        flows("load 2; source 4; rget; is Any;", 128, 16, 8, 0);
        flows("load 1; length;", 32, 0, 2, 0);
        flows("load 2; length;", 0, 0, 8, 0);
        // Nothing else has the ref's by flows.
        flows("load 0; is A;", 0, 1, 0, 0);
        flows("load 0; as A; is A;", 0, 1, 0, 0);
        flows("load 3; get A x;", 4, 0, 0, 0);
    }

    private void flowOfWrittenRef() {
        t.sentence("Bit 4: put, iput, rput also the ref's into what they write.");
        flows("load 0; push 0; mark 256; put A x; load 3; get A x;", 256, 0, 0, 1);
        flows("load 0; null; put A r; load 3; get A r; is Any;", 0, 0, 0, 1);
        flows("load 0; null; put A r; load 3; get A x;", 4, 0, 0, 0);
        flows("load 1; push 1; push 0; mark 256; iput; load 4; push 1; iget;", 256, 0, 0, 2);
        flows("load 1; source 4; push 0; mark 256; iput; load 4; push 1; iget;", 256, 16, 0, 2);
        flows("load 2; push 1; null; rput; load 5; push 1; rget; is Any;", 0, 0, 0, 8);
        flows("load 2; source 4; null; rput; load 5; push 1; rget; is Any;", 0, 16, 0, 8);
        flows("load 1; push 1; push 0; iput; load 4; length;", 32, 0, 0, 0);
        flows("load 3; push 0; mark 256; put A x; load 3; get A x;", 256, 0, 0, 0);
    }

    private void cleanAndMark() {
        t.sentence("clean N: an int without the MARKS of N; mark N: with them besides.");
        int[] numbers = {0, 1, 2, 32767, 32768, 65534, 65535};
        for (int had : numbers) {
            for (int number : numbers) {
                String ahead = "push 5; mark " + had + "; ";
                t.dueInt(ahead + "clean " + number + "; ret;", 5, had & ~number);
                t.dueInt(ahead + "mark " + number + "; ret;", 5, had | number);
            }
        }
    }

    private void sources() {
        t.sentence("source k: INPUT k, with MARK k alone (2 to the k).");
        for (int k = 0; k < 16; k++) {
            t.dueInt("source " + k + "; ret;", k + 1, 1 << k);
            t.dueInt("push 1; mark 65535; pop; source " + k + "; ret;", k + 1, 1 << k);
        }
        TaintHouse house = t.house("class A { method f() int { source 15; ret; } }");
        for (int v : new int[] {0, -1, LEAST, MOST}) {
            house.input(15, v);
            t.due("run(0)", house.run(0), 1);
            t.due("result(1)", house.result(1), v);
            t.due("result(2)", house.result(2), 32768);
        }
    }

    private void sinks() {
        t.sentence("sink k: an EVENT: k, the int, its MARKS; it is an ALARM if the POLICY of k has one of them.");
        int[] some = {0, 1, 32768, 5, 65535};
        for (int k = 0; k < 16; k++) {
            TaintHouse house = t.house("class A { method f(int) none { load 0; sink " + k + "; ret; } }");
            for (int policy : some) {
                for (int marks : some) {
                    house.policy(k, policy);
                    house.policy((k + 1) % 16, ~policy);
                    house.argument(0, LEAST + k, marks);
                    t.due("run(0)", house.run(0), 0);
                    boolean alarm = (policy & marks) != 0;
                    int[] want = {k, LEAST + k, marks, alarm ? 1 : 0};
                    for (int what = 0; what < 4; what++) {
                        t.due("event(0, " + what + ")", house.event(0, what), want[what]);
                    }
                    t.due("result(4)", house.result(4), 1);
                    t.due("result(5)", house.result(5), alarm ? 1 : 0);
                }
            }
        }
    }

    private void whatAnObjectIs() {
        t.sentence("An OBJECT is of its class and of all above it; an ARRAY of Any alone.");
        String[] classes = {"Any", "Fault", "NullFault", "BoundsFault", "SizeFault", "DivideFault", "CastFault", "P", "Q", "R",
            "S"};
        int[] parents = {-1, 0, 1, 1, 1, 1, 1, 6, 7, 8, 0};
        String told = "class P : CastFault { } class Q : P { } class R : Q { } class S { } ";
        for (int of = 0; of < classes.length; of++) {
            StringBuilder asks = new StringBuilder();
            for (String one : classes) {
                asks.append("load 0; is ").append(one).append("; sink 0; ");
            }
            TaintHouse house = t.house(told + "class M { method f() none { new " + classes[of] + "; store 0; " + asks + "ret; }"
                + " method g() none { push 1; ints; store 0; " + asks + "ret; } method h() none { push 1; refs; store 0; " + asks
                + "ret; } method i() none { null; store 0; " + asks + "ret; } }");
            for (int m = 0; m < 4; m++) {
                t.due("run(" + m + ")", house.run(m), 0);
                for (int c = 0; c < classes.length; c++) {
                    boolean is = m == 0 && isOf(parents, of, c) || (m == 1 || m == 2) && c == 0;
                    t.due("whether " + classes[of] + " is " + classes[c], house.event(c, 1), is ? 1 : 0);
                }
            }
        }
    }

    private static boolean isOf(int[] parents, int one, int wanted) {
        for (int c = one; c >= 0; c = parents[c]) {
            if (c == wanted) {
                return true;
            }
        }
        return false;
    }

    /** Runs code in a class of its own, and looks whether it ends with an int, or by what fault. */
    private void dueEnd(String told, String code, int want) {
        String text = told + " class M { method f() int { " + code + " ret; } }";
        TaintHouse house = t.house(text);
        int m = house.count(1) - 1;
        boolean thrown = want < 0;
        t.due("run() of " + code, house.run(m), thrown ? 3 : 1);
        t.due(code, thrown ? -house.object(house.result(1), 0) : house.result(1), want);
    }

    private static final int NULL_FAULT = -2;
    private static final int CAST_FAULT = -6;

    private void mustBeObjects() {
        t.sentence("get, put C: the ref must be an OBJECT of C; virt C: likewise (the METHOD is that of the NAME in the"
            + " OBJECT's class, or else the next one above);");
        String told = "class A { field x int; virtual v() int { push 1; ret; } } class B : A { virtual v() int { push 2; ret; } }"
            + " class C : B { } class D : C { virtual v() int { push 4; ret; } method w() none { ret; } } class E : A { }"
            + " class X { field x int; }";
        String[] makes = {"new A;", "new B;", "new C;", "new D;", "new E;", "new X;", "new Any;", "push 1; ints;",
            "push 1; refs;", "null;"};
        int[] virts = {1, 2, 2, 4, 1};
        String[] asks = {"A", "B", "C", "D", "E"};
        String[] below = {"01234", "123", "23", "3", "4"};
        for (int i = 0; i < makes.length; i++) {
            for (int c = 0; c < asks.length; c++) {
                boolean fits = below[c].indexOf('0' + i) >= 0;
                int fault = i == 9 ? NULL_FAULT : CAST_FAULT;
                dueEnd(told, makes[i] + " get " + asks[c] + " x;", fits ? 0 : fault);
                dueEnd(told, makes[i] + " push 5; put " + asks[c] + " x; push 6;", fits ? 6 : fault);
                dueEnd(told, makes[i] + " virt " + asks[c] + " v;", fits ? virts[i] : fault);
            }
        }
    }

    private void mustBeArrays() {
        t.sentence("as C: null or of C; iget, iput: an ARRAY of ints; rget, rput: of refs; length: an ARRAY.");
        String told = "class A { } class B : A { }";
        String[] makes = {"new Any;", "new A;", "new B;", "push 1; ints;", "push 1; refs;", "null;"};
        String[] asks = {"as Any; is Any;", "as A; is Any;", "as B; is Any;", "push 0; iget;", "push 0; push 3; iput; push 1;",
            "push 0; rget; is Any;", "push 0; null; rput; push 1;", "length;", "as Fault; is Any;"};
        int c = CAST_FAULT;
        int n = NULL_FAULT;
        int[][] want = {{1, 1, 1, 1, 1, 0}, {c, 1, 1, c, c, 0}, {c, c, 1, c, c, 0}, {c, c, c, 0, c, n}, {c, c, c, 1, c, n},
            {c, c, c, c, 0, n}, {c, c, c, c, 1, n}, {c, c, c, 1, 1, n}, {c, c, c, c, c, 0}};
        for (int a = 0; a < asks.length; a++) {
            for (int m = 0; m < makes.length; m++) {
                dueEnd(told, makes[m] + " " + asks[a], want[a][m]);
            }
        }
    }

    private void callsAndReturns() {
        t.sentence("call C NAME; virt C NAME; ret; throw; is C; as C;");
        String text = "class A { method six(int, int, int, int, int, int) int { load 0; load 1; sub; load 2; sub; load 3; sub;"
            + " load 4; sub; load 5; sub; ret; } virtual seven(int, int, int, int, int, int) int { load 1; load 2; load 3;"
            + " load 4; load 5; load 6; call A six; load 0; is A; add; ret; } method f() int { push 100; push 1; push 2;"
            + " push 3; push 4; push 5; call A six; ret; } method g() int { new A; push 100; push 1; push 2; push 3; push 4;"
            + " push 5; virt A seven; ret; } method n() none { push 1; push 2; ret; } method h() int { push 7; call A n;"
            + " push 8; call A n; sub; ret; } method k(int) int { load 0; ifgt x; push 1; ret; x: load 0; load 0; push 1; sub;"
            + " call A k; mul; ret; } }";
        TaintHouse house = t.house(text);
        t.dueRun(house, text, 2, 1, 85, 0);
        t.dueRun(house, text, 3, 1, 86, 0);
        t.dueRun(house, text, 5, 1, -1, 0);
        house.argument(0, 12, 0);
        t.dueRun(house, text, 6, 1, 479001600, 0);
        house.argument(0, 13, 0);
        t.dueRun(house, text, 6, 1, 1932053504, 0);
    }
}
