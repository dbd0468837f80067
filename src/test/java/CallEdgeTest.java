/** The calls, sentence by sentence: promises 1 and 4 to 18, what is refused, and what a refused call leaves as it was. */
public final class CallEdgeTest {
    private static final int MOST = Integer.MAX_VALUE;
    private static final int LEAST = Integer.MIN_VALUE;
    private final Tester t;

    CallEdgeTest(Tester tester) {
        t = tester;
    }

    public static void main(String[] args) {
        Tester tester = new Tester();
        new CallEdgeTest(tester).all();
        tester.finish();
    }

    void all() {
        newObject();
        noRun();
        forgotten();
        flows();
        policies();
        inputs();
        arguments();
        locals();
        runs();
        results();
        events();
        objects();
        slots();
        statics();
        types();
        methods();
        counts();
        manyCalls();
    }

    private void newObject() {
        t.sentence("No classes but the first seven, no RUN; FLOWS 0, all POLICIES 0, INPUTS 0.");
        TaintHouse used = t.house("class A { static s int; method f() int { push 1; ret; } }");
        used.flows(7);
        used.run(0);
        for (int k = 0; k < 16; k++) {
            used.policy(k, 5);
            used.input(k, 5);
        }
        // Objects share nothing.
        TaintHouse house = new TaintHouse();
        int[] counts = {7, 0, 0, 0, 0};
        for (int what = 0; what < 5; what++) {
            t.due("count(" + what + ")", house.count(what), counts[what]);
        }
        t.due("type(6, 0)", house.type(6, 0), 1);
        t.due("type(7, 0)", house.type(7, 0), -1);
        t.due("method(0, 0)", house.method(0, 0), -1);
        t.due("place()", house.place(), -1);
        t.due("run(0)", house.run(0), -10);
        t.due("result(0)", house.result(0), -1);
        t.due("flows(0)", house.flows(0), 0);
        for (int k = 0; k < 16; k++) {
            t.due("policy(" + k + ", 0)", house.policy(k, 0), 0);
            t.due("input(" + k + ", 0)", house.input(k, 0), 0);
        }
        TaintHouse told = t.house("class A { method f(int) int { load 0; ret; } }");
        t.due("run(0) with arguments that were never told", told.run(0), 1);
        t.due("result(1)", told.result(1), 0);
        t.due("result(2)", told.result(2), 0);
    }

    /** All that is asked of a run, where there is none. */
    private void dueNoRun(TaintHouse house) {
        for (int what = -1; what < 9; what++) {
            t.due("result(" + what + ") without a run", house.result(what), -1);
            t.due("event(0, " + what + ") without a run", house.event(0, what), -1);
            t.due("object(0, " + what + ") without a run", house.object(0, what), -1);
            t.due("slot(0, 0, " + what + ") without a run", house.slot(0, 0, what), -1);
            t.due("stat(0, " + what + ") without a run", house.stat(0, what), -1);
        }
    }

    private void noRun() {
        t.sentence("Without a RUN stat() is NONE, too.");
        dueNoRun(new TaintHouse());
        TaintHouse house = t.house("class A { static s int; static q ref; method f() none { ret; } }");
        dueNoRun(house);
        t.due("stat(1, 1)", house.stat(1, 1), -1);
        t.due("run(1)", house.run(1), -10);
        dueNoRun(house);
        t.due("run(0)", house.run(0), 0);
        t.due("stat(0, 0)", house.stat(0, 0), 0);
        t.due("stat(1, 1)", house.stat(1, 1), 0);
    }

    private void forgotten() {
        t.sentence("else the RUN that was is forgotten, ARGUMENTS are 0 without MARKS.");
        String text = "class A { field x int; static s int; method f(int, int, int, int, int, int) none { load 0; sink 0;"
            + " load 1; sink 1; load 2; sink 2; load 3; sink 3; load 4; sink 4; load 5; sink 5; load 5; puts A s; new A; pop;"
            + " ret; } virtual v(int, int, int, int, int, int) int { load 6; ret; } }";
        TaintHouse house = t.house(text);
        for (String next : new String[] {text, text.replace("class A", "class B").replace("puts A", "puts B").replace("new A",
            "new B")}) {
            for (int i = 0; i < 7; i++) {
                house.argument(i, 10 + i, 1 << i);
            }
            t.due("run(0)", house.run(0), 0);
            t.due("event(5, 1)", house.event(5, 1), 15);
            t.due("run(1)", house.run(1), 1);
            t.due("result(1)", house.result(1), 16);
            t.due("text()", Tester.read(house, next), 2);
            dueNoRun(house);
            t.due("run(0)", house.run(0), 0);
            for (int i = 0; i < 6; i++) {
                t.due("event(" + i + ", 1)", house.event(i, 1), 0);
                t.due("event(" + i + ", 2)", house.event(i, 2), 0);
            }
            t.due("run(1)", house.run(1), 1);
            t.due("result(1)", house.result(1), 0);
            t.due("result(2)", house.result(2), 0);
        }
    }

    private void flows() {
        t.sentence("FLOWS are v (its lowest three bits) in RUNS from now on: what they were.");
        String text = "class A { method f() int { push 1; ints; push 0; mark 8; iget; ret; } }";
        TaintHouse house = t.house(text);
        int was = 0;
        for (int v : new int[] {0, 1, 2, 3, 4, 5, 6, 7, 8, 9, 15, 16, 65537, -1, -2, -7, -8, LEAST, MOST, LEAST + 1, 0}) {
            t.due("flows(" + v + ")", house.flows(v), was);
            was = v & 7;
            t.due("count(3)", house.count(3), was);
            t.dueRun(house, text, 0, 1, 0, (was & 1) != 0 ? 8 : 0);
        }
    }

    private void policies() {
        t.sentence("The POLICY of k is v (its lowest sixteen bits): what it was; -15 no k of 0 .. 15.");
        TaintHouse house = new TaintHouse();
        for (int k = 0; k < 16; k++) {
            t.due("policy(" + k + ")", house.policy(k, 1000 + k), 0);
        }
        for (int k : new int[] {-1, 16, 17, 65536, 1 << 20, LEAST, MOST, -16}) {
            t.due("policy(" + k + ", 3)", house.policy(k, 3), -15);
        }
        for (int k = 0; k < 16; k++) {
            t.due("policy(" + k + ")", house.policy(k, 0), 1000 + k);
        }
        int was = 0;
        for (int v : new int[] {1, 32768, 65535, 65536, 65537, -1, LEAST, MOST, 0x12345678, -65536, 0}) {
            t.due("policy(15, " + v + ")", house.policy(15, v), was);
            was = v & 65535;
        }
    }

    private void inputs() {
        t.sentence("INPUT k is v: what it was; NONE (as -1 may be, too) if there is no such k.");
        TaintHouse house = new TaintHouse();
        for (int k = 0; k < 16; k++) {
            t.due("input(" + k + ")", house.input(k, -1000 - k), 0);
        }
        for (int k : new int[] {-1, 16, 17, 65536, LEAST, MOST, -16}) {
            t.due("input(" + k + ", 3)", house.input(k, 3), -1);
        }
        for (int k = 0; k < 16; k++) {
            t.due("input(" + k + ")", house.input(k, 0), -1000 - k);
        }
        int was = 0;
        for (int v : new int[] {-1, 0, MOST, LEAST, 65536, -1, -1, 5}) {
            t.due("input(0, " + v + ")", house.input(0, v), was);
            was = v;
        }
    }

    private void arguments() {
        t.sentence("ARGUMENT i (0 .. 6) is v, with MARKS m (their lowest sixteen bits): 1; -15 no such i.");
        String text = "class A { virtual v(int, int, int, int, int, int) none { load 1; sink 1; load 2; sink 2; load 3; sink 3;"
            + " load 4; sink 4; load 5; sink 5; load 6; sink 6; ret; } method f(int) int { load 0; ret; } }";
        TaintHouse house = t.house(text);
        int[] values = {LEAST, MOST, -1, 0, 1, 65536, -65536};
        int[] marks = {65536, 1, 65535, 65537, -1, LEAST, MOST};
        int[] kept = {0, 1, 65535, 1, 65535, 0, 65535};
        for (int i = 0; i < 7; i++) {
            t.due("argument(" + i + ")", house.argument(i, values[i], marks[i]), 1);
        }
        for (int i : new int[] {-1, 7, 8, 16, LEAST, MOST, -7}) {
            t.due("argument(" + i + ", 99, 99)", house.argument(i, 99, 99), -15);
        }
        t.due("run(0)", house.run(0), 0);
        for (int i = 1; i < 7; i++) {
            t.due("event of argument " + i, house.event(i - 1, 1), values[i]);
            t.due("marks of argument " + i, house.event(i - 1, 2), kept[i]);
        }
        t.dueRun(house, text, 1, 1, LEAST, 0);
        // They last until they are told anew, whatever a run does with its locals.
        t.due("argument(0, 5, 6)", house.argument(0, 5, 6), 1);
        t.dueRun(house, text, 1, 1, 5, 6);
        t.dueRun(house, text, 1, 1, 5, 6);
    }

    private void locals() {
        t.sentence("A RUN of a METHOD: its locals from 0 on are the ARGUMENTS (where a ref must be: null,"
            + " with the ARGUMENT's MARKS; so a virtual's first one, too):");
        String[] kinds = {"int, int, int, int, int, int", "ref, ref, ref, ref, ref, ref", "int, ref, int, ref, int, ref",
            "ref, int", "int", "ref", ""};
        for (String row : kinds) {
            for (int first = 0; first < 2; first++) {
                String all = (first == 1 ? row.isEmpty() ? "ref" : "ref, " + row : row);
                String[] each = all.isEmpty() ? new String[0] : all.split(", ");
                StringBuilder items = new StringBuilder();
                for (int i = 0; i < each.length; i++) {
                    items.append("load ").append(i).append(each[i].equals("ref") ? "; is Any" : "").append("; sink ").append(i)
                        .append("; ");
                    items.append(each[i].equals("ref") ? "load " + i + "; ifsome bad; " : "");
                }
                TaintHouse house = t.house("class A { " + (first == 1 ? "virtual" : "method") + " f(" + row + ") int { " + items
                    + "push 1; ret; bad: push 2; ret; } }");
                for (int i = 0; i < 7; i++) {
                    house.argument(i, 20 + i, 3 << i);
                }
                t.dueRun(house, row, 0, 1, 1, 0);
                for (int i = 0; i < each.length; i++) {
                    t.due("event(" + i + ", 1) of " + row, house.event(i, 1), each[i].equals("ref") ? 0 : 20 + i);
                    t.due("event(" + i + ", 2) of " + row, house.event(i, 2), 3 << i);
                }
            }
        }
    }

    private void runs() {
        t.sentence("how it ends, 0 .. 7; -10 no such METHOD.");
        String text = "class A { method a() none { ret; } method b() int { push 1; ret; } method c() ref { null; ret; }"
            + " method d() none { null; throw; } method e() none { x: goto x; } method f() none { call A f; ret; }"
            + " method g() none { push 3000; ints; ret; } method h() none { x: push 1; sink 1; goto x; } }";
        TaintHouse house = t.house(text);
        for (int m = 0; m < 8; m++) {
            t.due("run(" + m + ")", house.run(m), m);
            t.due("result(0)", house.result(0), m);
        }
        for (int m : new int[] {8, 9, 23, 24, 25, MOST, -1, -2, LEAST}) {
            t.due("run(" + m + ")", house.run(m), -10);
        }
        t.due("run(0) of no methods", t.house("class A { }").run(0), -10);
        TaintHouse full = t.house("class A { " + Tester.times(24, "method f%() int { push %; ret; } ") + "}");
        for (int m = 0; m < 24; m++) {
            t.due("run(" + m + ")", full.run(m), 1);
            t.due("result(1)", full.result(1), m);
        }
        t.due("run(24)", full.run(24), -10);
    }

    private void results() {
        t.sentence("Of the latest RUN: what 0 how it ended, 1 the int (or the number of the OBJECT or ARRAY, NONE of null),"
            + " 2 its MARKS (1, 2 of what was thrown if it ended so; 0 if it ended otherwise), 3 INSTRUCTIONS done, 4 EVENTS,"
            + " 5 ALARMS, 6 OBJECTS and ARRAYS, 7 CELLS.");
        String text = "class A { field x int; method a(int) none { load 0; sink 1; load 0; ret; } method b(int) int { push 3;"
            + " ints; pop; load 0; ret; } method c(ref) ref { new A; pop; load 0; ret; } method d() ref { new A; pop; new A;"
            + " ret; } method e() ref { push 5; source 3; ints; ret; } method f() none { source 3; push 0; div; ret; }"
            + " method g() none { x: source 3; sink 3; goto x; } method h() none { new A; call A h; ret; }"
            + " method i(int) none { load 0; ints; ret; } method j(int) none { x: load 0; pop; goto x; } }";
        TaintHouse house = t.house(text);
        house.argument(0, 4000, 7);
        house.input(3, 4);
        house.policy(1, 2);
        house.policy(3, 16);
        int[][] want = {{0, 0, 0, 4, 1, 1, 0, 0}, {1, 4000, 7, 5, 0, 0, 1, 4}, {2, -1, 7, 4, 0, 0, 1, 2},
            {2, 1, 0, 4, 0, 0, 2, 4},
            {2, 0, 0, 4, 0, 0, 1, 5}, {3, 0, 8, 3, 0, 0, 1, 1}, {7, 0, 0, 1501, 500, 0, 0, 0}, {5, 0, 0, 47, 0, 0, 24, 48},
            {6, 0, 0, 1, 0, 0, 0, 0}, {4, 0, 0, 20000, 0, 0, 0, 0}};
        for (int m = 0; m < want.length; m++) {
            t.due("run(" + m + ")", house.run(m), want[m][0]);
            for (int what = 0; what < 8; what++) {
                t.due("result(" + what + ") of run(" + m + ")", house.result(what), want[m][what]);
            }
        }
        t.sentence("NONE ahead of any, for another what.");
        for (int what : new int[] {-1, 8, 9, 100, MOST, LEAST}) {
            t.due("result(" + what + ")", house.result(what), -1);
        }
        TaintHouse fresh = t.house(text);
        for (int what = 0; what < 8; what++) {
            t.due("result(" + what + ") ahead of any run", fresh.result(what), -1);
        }
    }

    private static final String LOOK = "class A { field x int; field r ref; static s int; static q ref;"
        + " method f(int) none { load 0; sink 0; source 3; sink 15; new B; puts A q; gets A q; load 0; put A x; gets A q;"
        + " push - 1; mark 5; put B z; gets A q; gets A q; put B y; load 0; puts A s; push 2; mark 9; refs; store 1; load 1;"
        + " push 1; load 1; rput; push 3; ints; push 2; load 0; iput; push 0; ints; pop; ret; } method none1() none { ret; } }"
        + " class B : A { field y ref; field z int; }";

    private TaintHouse looked() {
        TaintHouse house = t.house(LOOK);
        house.argument(0, 6, 48);
        house.input(3, LEAST);
        house.policy(15, 8);
        t.due("run(0)", house.run(0), 0);
        return house;
    }

    private void events() {
        t.sentence("Of an EVENT of the latest RUN: what 0 k, 1 the int, 2 its MARKS, 3 whether it is an ALARM."
            + " NONE for none such, another what.");
        TaintHouse house = looked();
        int[][] want = {{0, 6, 48, 0}, {15, LEAST, 8, 1}};
        for (int i = 0; i < 2; i++) {
            for (int what = 0; what < 4; what++) {
                t.due("event(" + i + ", " + what + ")", house.event(i, what), want[i][what]);
            }
            for (int what : new int[] {-1, 4, 5, MOST, LEAST}) {
                t.due("event(" + i + ", " + what + ")", house.event(i, what), -1);
            }
        }
        for (int i : new int[] {-1, 2, 3, 499, 500, 501, MOST, LEAST}) {
            for (int what = 0; what < 4; what++) {
                t.due("event(" + i + ", " + what + ")", house.event(i, what), -1);
            }
        }
        house.run(1);
        t.due("event(0, 0) of a run without any", house.event(0, 0), -1);
    }

    private void objects() {
        t.sentence("Of an OBJECT or ARRAY of the latest RUN: what 0 its class (of an ARRAY -2 of ints, -3 of refs),"
            + " 1 how many FIELDS or elements, 2 the MARKS of its LENGTH (0 of an OBJECT). NONE for none such, another what.");
        TaintHouse house = looked();
        int[][] want = {{8, 4, 0}, {-3, 2, 9}, {-2, 3, 0}, {-2, 0, 0}};
        for (int i = 0; i < 4; i++) {
            for (int what = 0; what < 3; what++) {
                t.due("object(" + i + ", " + what + ")", house.object(i, what), want[i][what]);
            }
            for (int what : new int[] {-1, 3, 4, MOST, LEAST}) {
                t.due("object(" + i + ", " + what + ")", house.object(i, what), -1);
            }
        }
        for (int i : new int[] {-1, 4, 5, 2999, 3000, 3001, MOST, LEAST}) {
            for (int what = 0; what < 3; what++) {
                t.due("object(" + i + ", " + what + ")", house.object(i, what), -1);
            }
        }
        house.run(1);
        t.due("object(0, 0) of a run without any", house.object(0, 0), -1);
    }

    private void slots() {
        t.sentence("Of a FIELD or element (FIELDS: those of the highest class first, as they stand): what 0 the int,"
            + " or the number of the OBJECT or ARRAY (NONE of null), 1 its MARKS. NONE for none such, another what.");
        TaintHouse house = looked();
        int[][][] want = {{{6, 48}, {-1, 0}, {0, 0}, {-1, 5}}, {{-1, 0}, {1, 0}}, {{0, 0}, {0, 0}, {6, 48}}, {}};
        for (int i = 0; i < 4; i++) {
            for (int k = 0; k < want[i].length; k++) {
                t.due("slot(" + i + ", " + k + ", 0)", house.slot(i, k, 0), want[i][k][0]);
                t.due("slot(" + i + ", " + k + ", 1)", house.slot(i, k, 1), want[i][k][1]);
                for (int what : new int[] {-1, 2, 3, MOST, LEAST}) {
                    t.due("slot(" + i + ", " + k + ", " + what + ")", house.slot(i, k, what), -1);
                }
            }
            for (int k : new int[] {-1, want[i].length, want[i].length + 1, 2999, 3000, MOST, LEAST}) {
                t.due("slot(" + i + ", " + k + ", 0)", house.slot(i, k, 0), -1);
                t.due("slot(" + i + ", " + k + ", 1)", house.slot(i, k, 1), -1);
            }
        }
        for (int i : new int[] {-1, 4, 5, 2999, 3000, MOST, LEAST}) {
            t.due("slot(" + i + ", 0, 1)", house.slot(i, 0, 1), -1);
        }
    }

    private void statics() {
        t.sentence("Of a static behind the latest RUN: as slot().");
        TaintHouse house = looked();
        int[][] want = {{6, 48}, {0, 0}};
        for (int k = 0; k < 2; k++) {
            t.due("stat(" + k + ", 0)", house.stat(k, 0), want[k][0]);
            t.due("stat(" + k + ", 1)", house.stat(k, 1), want[k][1]);
            for (int what : new int[] {-1, 2, 3, MOST, LEAST}) {
                t.due("stat(" + k + ", " + what + ")", house.stat(k, what), -1);
            }
        }
        for (int k : new int[] {-1, 2, 3, 15, 16, 17, MOST, LEAST}) {
            t.due("stat(" + k + ", 0)", house.stat(k, 0), -1);
            t.due("stat(" + k + ", 1)", house.stat(k, 1), -1);
        }
        house.run(1);
        t.due("stat(0, 0) of a run that sets none", house.stat(0, 0), 0);
        t.due("stat(1, 0) of a run that sets none", house.stat(1, 0), -1);
        TaintHouse full = t.house("class A { " + Tester.times(16, "static s% ref; ") + "method f(ref) none { load 0; puts A"
            + " s15; ret; } }");
        full.argument(0, 0, 65535);
        t.due("run(0)", full.run(0), 0);
        t.due("stat(15, 0)", full.stat(15, 0), -1);
        t.due("stat(15, 1)", full.stat(15, 1), 65535);
        t.due("stat(14, 1)", full.stat(14, 1), 0);
        t.due("stat(16, 1)", full.stat(16, 1), -1);
    }

    private void types() {
        t.sentence("Of a CLASS: what 0 the number of its PARENT (NONE of Any), 1 how many FIELDS it has with those above,"
            + " 2 how many METHODS stand in it. NONE for none such, another what.");
        String eight = Tester.times(8, "field x% int; ");
        TaintHouse house = t.house("class A { " + eight + "method f() none { ret; } virtual v() none { ret; } static s int; }"
            + " class B : A { " + eight
            + "virtual v() none { ret; } } class C : B { field y int; method x() none { ret; } method z() none { ret; }"
            + " virtual w() none { ret; } } class D { }");
        int[][] want = {{-1, 0, 0}, {0, 0, 0}, {1, 0, 0}, {1, 0, 0}, {1, 0, 0}, {1, 0, 0}, {1, 0, 0}, {0, 8, 2}, {7, 16, 1},
            {8, 17, 3}, {0, 0, 0}};
        for (int c = 0; c < want.length; c++) {
            for (int what = 0; what < 3; what++) {
                t.due("type(" + c + ", " + what + ")", house.type(c, what), want[c][what]);
            }
            for (int what : new int[] {-1, 3, 4, MOST, LEAST}) {
                t.due("type(" + c + ", " + what + ")", house.type(c, what), -1);
            }
        }
        for (int c : new int[] {-1, 11, 12, 18, 19, 20, MOST, LEAST}) {
            for (int what = 0; what < 3; what++) {
                t.due("type(" + c + ", " + what + ")", house.type(c, what), -1);
            }
        }
        TaintHouse full = t.house("class A { " + Tester.times(24, "method f%() none { ret; } ") + "}");
        t.due("type(7, 2)", full.type(7, 2), 24);
    }

    private void methods() {
        t.sentence("Of a METHOD: what 0 its CLASS, 1 how many KINDS, 2 its RESULT (0 none, 1 int, 2 ref),"
            + " 3 whether it is a virtual, 4 INSTRUCTIONS, 5 the most that its STACK has ahead of any that is come to."
            + " NONE for none such, another what.");
        String sixteen = Tester.times(16, "push 1; ");
        String text = "class A { method a() none { ret; } virtual b(int, ref, int, ref, int, ref) int { push 1; ret; } }"
            + " class B { method c(int) ref { null; ret; } virtual d() none { " + sixteen + "ret; } method e() none { "
            + Tester.times(99, "goto x%; x%: ") + "ret; y: z: }"
            + " method f() none { a: push 1; push 2; push 3; add; add; pop; ret; b: pop; ret; try a b b Any; }"
            + " method g(int) int { load 0; ifeq x; push 1; push 1; push 1; push 1; ret; x: push 5; ret; push 1; push 1;"
            + " push 1; push 1; push 1; ret; } }";
        TaintHouse house = t.house(text);
        int[][] want = {{7, 0, 0, 0, 1, 0}, {7, 6, 1, 1, 2, 1}, {8, 1, 2, 0, 2, 1}, {8, 0, 0, 1, 17, 16}, {8, 0, 0, 0, 100, 0},
            {8, 0, 0, 0, 9, 3},
            {8, 1, 1, 0, 15, 4}};
        for (int m = 0; m < want.length; m++) {
            for (int what = 0; what < 6; what++) {
                t.due("method(" + m + ", " + what + ")", house.method(m, what), want[m][what]);
            }
            for (int what : new int[] {-1, 6, 7, MOST, LEAST}) {
                t.due("method(" + m + ", " + what + ")", house.method(m, what), -1);
            }
        }
        for (int m : new int[] {-1, 7, 8, 23, 24, 25, MOST, LEAST}) {
            for (int what = 0; what < 6; what++) {
                t.due("method(" + m + ", " + what + ")", house.method(m, what), -1);
            }
        }
    }

    private void counts() {
        t.sentence("0 CLASSES, 1 METHODS, 2 statics, 3 FLOWS, 4 bytes of the tape; NONE for another what.");
        TaintHouse house = new TaintHouse();
        dueCounts(house, 7, 0, 0, 0, 0);
        Tester.feed(house, "class A { static s int; method f() none { ret; } } class B { static s int; static t ref; }");
        dueCounts(house, 7, 0, 0, 0, 90);
        house.flows(5);
        t.due("text()", house.text(), 1);
        dueCounts(house, 9, 1, 3, 5, 0);
        Tester.feed(house, "class A { }?");
        house.flows(-1);
        dueCounts(house, 9, 1, 3, 7, 12);
        t.due("text()", house.text(), -12);
        dueCounts(house, 9, 1, 3, 7, 0);
        Tester.read(house, Tester.times(12, "class A% { static s int; method f() none { ret; } virtual g() none { ret; } } "));
        dueCounts(house, 19, 24, 12, 7, 0);
        Tester.read(house, "class A { }");
        dueCounts(house, 8, 0, 0, 7, 0);
    }

    private void dueCounts(TaintHouse house, int... want) {
        for (int what = 0; what < want.length; what++) {
            t.due("count(" + what + ")", house.count(what), want[what]);
        }
        for (int what : new int[] {-1, 5, 6, MOST, LEAST}) {
            t.due("count(" + what + ")", house.count(what), -1);
        }
    }

    private void manyCalls() {
        t.sentence("An object is used for at most 512 calls after it has been made;");
        TaintHouse house = new TaintHouse();
        Tester.read(house, "class A { static s int; method f() int { gets A s; push 3; add; ret; } }");
        // Four feeds, end and text.
        int calls = 6;
        while (calls < 510) {
            t.due("run(0)", house.run(0), 1);
            calls++;
        }
        t.due("result(1) as call 511", house.result(1), 3);
        t.due("count(1) as call 512", house.count(1), 1);
    }
}
