/** How runs begin and end, sentence by sentence: limits 4 to 7, what counts as done, and what stays to be asked. */
public final class LimitEdgeTest {
    private static final int MOST = Integer.MAX_VALUE;
    private final Tester t;

    LimitEdgeTest(Tester tester) {
        t = tester;
    }

    public static void main(String[] args) {
        Tester tester = new Tester();
        new LimitEdgeTest(tester).all();
        tester.finish();
    }

    void all() {
        begins();
        ends();
        instructions();
        nextIsNotDone();
        methods();
        cells();
        cellsOfFields();
        events();
        cellsOfThrown();
        numbers();
        doneAndCounted();
        askedAheadOfLimits();
        lengthsTakeNoCell();
        stays();
        settingsAtRun();
        leftAsTheyWere();
    }

    /** result(3) to result(7) without the alarms: what was done, events, objects and arrays, cells. */
    private void dueCounts(TaintHouse house, String call, int done, int events, int objects, int cells) {
        t.due("result(3) of " + call, house.result(3), done);
        t.due("result(4) of " + call, house.result(4), events);
        t.due("result(6) of " + call, house.result(6), objects);
        t.due("result(7) of " + call, house.result(7), cells);
    }

    private void begins() {
        t.sentence("A RUN begins with statics 0 and null, no OBJECTS, no EVENTS; a METHOD has its ARGUMENTS.");
        String text = "class A { static s int; static q ref; method f(int) int { gets A s; sink 1; gets A q; is Any; sink 2;"
            + " load 0; sink 3; load 0; puts A s; new A; puts A q; inc 0 1; load 0; ret; } method g() none { ret; } }";
        TaintHouse house = t.house(text);
        house.argument(0, 5, 9);
        for (int round = 0; round < 3; round++) {
            t.dueRun(house, text, 0, 1, 6, 9);
            dueCounts(house, "f", 14, 3, 1, 1);
            int[][] events = {{0, 0}, {0, 0}, {5, 9}};
            for (int i = 0; i < 3; i++) {
                t.due("event(" + i + ", 1)", house.event(i, 1), events[i][0]);
                t.due("event(" + i + ", 2)", house.event(i, 2), events[i][1]);
            }
            t.due("stat(0, 0)", house.stat(0, 0), 5);
            t.due("stat(0, 1)", house.stat(0, 1), 9);
            t.due("stat(1, 0)", house.stat(1, 0), 0);
        }
        t.dueRun(house, text, 1, 0, 0, 0);
        dueCounts(house, "g", 1, 0, 0, 0);
        t.due("stat(0, 0)", house.stat(0, 0), 0);
        t.due("stat(0, 1)", house.stat(0, 1), 0);
        t.due("stat(1, 0)", house.stat(1, 0), -1);
        t.due("event(0, 0)", house.event(0, 0), -1);
        t.due("object(0, 0)", house.object(0, 0), -1);
    }

    private void ends() {
        t.sentence("It ends: 0 without a VALUE, 1 with an int, 2 with a ref, 3 by what was thrown and not caught;");
        t.dueRun("class A { method f() none { push 5; mark 7; ret; } }", 0, 0, 0, 0);
        t.dueRun("class A { method f() int { push 5; mark 7; ret; } }", 0, 1, 5, 7);
        t.dueRun("class A { method f() int { push -1; ret; } }", 0, 1, -1, 0);
        t.dueRun("class A { method f() ref { null; ret; } }", 0, 2, -1, 0);
        t.dueRun("class A { method f() ref { new A; pop; new A; ret; } }", 0, 2, 1, 0);
        t.dueRun("class A { method f() ref { push 0; ints; ret; } }", 0, 2, 0, 0);
        t.dueRun("class A { method f() int { new A; pop; new A; throw; } }", 0, 3, 1, 0);
        t.dueRun("class A { method f() int { source 4; push 0; div; ret; } }", 0, 3, 0, 16);
        t.dueRun("class A { method f() int { a: null; throw; b: pop; push 3; ret; try a b b Any; } }", 0, 1, 3, 0);
    }

    /**
     * Three instructions a round, as many rounds as argument 0 says, one for each more, and then the last ones.
     * So many are to be done in all.
     */
    private TaintHouse burnt(String last, int lastCount, int inAll) {
        int ahead = inAll - lastCount;
        String more = Tester.times(ahead % 3, "inc 1 1; ");
        TaintHouse house = t.house("class A { method f(int, int) int { x: inc 0 - 1; load 0; ifgt x; " + more + last
            + " } method g() none { ret; } }");
        house.argument(0, ahead / 3, 0);
        return house;
    }

    private void instructions() {
        t.sentence("or by a LIMIT: 4 behind 20000 INSTRUCTIONS (the next one isn't done),");
        for (int inAll = 19995; inAll <= 20005; inAll++) {
            boolean over = inAll > 20000;
            int done = Math.min(inAll, 20000);
            TaintHouse house = burnt("push 7; mark 5; ret;", 3, inAll);
            t.dueRun(house, "ret as " + inAll, 0, over ? 4 : 1, over ? 0 : 7, over ? 0 : 5);
            dueCounts(house, "ret as " + inAll, done, 0, 0, 0);
            house = burnt("null; throw;", 2, inAll);
            t.dueRun(house, "throw as " + inAll, 0, over ? 4 : 3, 0, 0);
            dueCounts(house, "throw as " + inAll, done, 0, over ? 0 : 1, over ? 0 : 1);
            house = burnt("push 7; sink 3; push 1; ret;", 4, inAll + 2);
            t.dueRun(house, "sink as " + inAll, 0, inAll + 2 > 20000 ? 4 : 1, inAll + 2 > 20000 ? 0 : 1, 0);
            t.due("result(4) of sink as " + inAll, house.result(4), over ? 0 : 1);
            // What a try catches as the last one is caught, and no more is done.
            house = burnt("a: null; throw; b: pop; push 3; ret; try a b b Any;", 5, inAll + 3);
            t.dueRun(house, "a try at " + inAll, 0, inAll + 3 > 20000 ? 4 : 1, inAll + 3 > 20000 ? 0 : 3, 0);
            t.due("result(6) of a try at " + inAll, house.result(6), over ? 0 : 1);
        }
        TaintHouse house = t.house("class A { method f() none { x: goto x; } method g() none { call A g; ret; } }");
        t.dueRun(house, "x: goto x", 0, 4, 0, 0);
        dueCounts(house, "x: goto x", 20000, 0, 0, 0);
        // Those of methods that are called count, too, and so do calls and returns.
        String calls = "class A { method f() none { x: call A n; goto x; } method n() none { ret; } }";
        t.dueRun(calls, 0, 4, 0, 0);
    }

    /** At the place of the next one another limit would come, but it isn't done. */
    private void nextIsNotDone() {
        t.sentence("(the next one isn't done),");
        // The last one makes 501 events; ahead of it are 2502, and one that pushes.
        String sinks = "class A { method f(int) none { push 500; store 1; y: load 1; sink 0; inc 1 - 1; load 1; ifgt y;"
            + " x: inc 0 - 1; load 0; ifgt x; @push 1; sink 0; ret; } }";
        TaintHouse house = t.house(sinks.replace("@", ""));
        house.argument(0, 5832, 0);
        t.dueRun(house, "the 501st event as 20000", 0, 7, 0, 0);
        dueCounts(house, "the 501st event as 20000", 19999, 500, 0, 0);
        house = t.house(sinks.replace("@", "inc 1 1; "));
        house.argument(0, 5832, 0);
        t.dueRun(house, "the 501st event as 20001", 0, 4, 0, 0);
        dueCounts(house, "the 501st event as 20001", 20000, 500, 0, 0);
        String cells = "class A { method f(int) none { push 2999; ints; pop; x: inc 0 - 1; load 0; ifgt x; @new Any; ret; } }";
        house = t.house(cells.replace("@", "inc 0 1; inc 0 1; "));
        house.argument(0, 6664, 0);
        t.dueRun(house, "the 3001st cell as 19998", 0, 6, 0, 0);
        dueCounts(house, "the 3001st cell as 19998", 19997, 0, 1, 3000);
        house.argument(0, 6665, 0);
        t.dueRun(house, "the 3001st cell as 20001", 0, 4, 0, 0);
        dueCounts(house, "the 3001st cell as 20001", 20000, 0, 1, 3000);
        String calls = "class A { method f(int, int) none { inc 0 - 1; load 0; ifgt r; x: inc 1 - 1; load 1; ifgt x; @call A n;"
            + " ret; r: load 0; load 1; call A f; ret; } method n() none { ret; } }";
        // 23 times 6 to the 24th method, 3 there, then 3 a round.
        house = t.house(calls.replace("@", "inc 1 1; "));
        house.argument(0, 24, 0);
        house.argument(1, 6619, 0);
        t.dueRun(house, "the 25th method as 20000", 0, 5, 0, 0);
        dueCounts(house, "the 25th method as 20000", 19999, 0, 0, 0);
        house = t.house(calls.replace("@", "inc 1 1; inc 1 1; "));
        house.argument(0, 24, 0);
        house.argument(1, 6619, 0);
        t.dueRun(house, "the 25th method as 20001", 0, 4, 0, 0);
        dueCounts(house, "the 25th method as 20001", 20000, 0, 0, 0);
    }

    private void methods() {
        t.sentence("5 a 25th METHOD within one another would begin,");
        String text = "class A { method f(int) int { load 0; sink 0; inc 0 - 1; load 0; ifgt x; push 7; ret; x: load 0;"
            + " call A f; ret; } virtual v(int) int { load 1; sink 0; inc 1 - 1; load 1; ifgt x; push 7; ret; x: load 0;"
            + " load 1; virt A v; ret; } method g(int) int { new A; load 0; virt A v; ret; } }";
        TaintHouse house = t.house(text);
        for (int n = 1; n <= 30; n++) {
            house.argument(0, n, 0);
            boolean over = n > 24;
            t.dueRun(house, "calls within one another: " + n, 0, over ? 5 : 1, over ? 0 : 7, 0);
            t.due("result(4)", house.result(4), Math.min(n, 24));
            boolean virtuals = n + 1 > 24;
            t.dueRun(house, "virtuals within one another: " + n, 2, virtuals ? 5 : 1, virtuals ? 0 : 7, 0);
            t.due("result(4)", house.result(4), Math.min(n, 23));
        }
        // One behind the other as many as there are instructions for; and no try catches a limit.
        String loop = "class A { method f() int { push 1000; store 0; x: call A n; inc 0 - 1; load 0; ifgt x; push 3; ret; }"
            + " method n() none { ret; } method g() int { a: call A g; ret; b: pop; push 3; ret; try a b b Any; } }";
        t.dueRun(loop, 0, 1, 3, 0);
        house = t.dueRun(loop, 2, 5, 0, 0);
        dueCounts(house, "g in g", 23, 0, 0, 0);
    }

    private void cells() {
        t.sentence("6 OBJECTS and ARRAYS would take more than 3000 CELLS");
        for (String word : new String[] {"ints", "refs"}) {
            String text = "class A { method f(int, int) none { load 0; " + word + "; pop; load 1; " + word + "; pop; ret; } }";
            TaintHouse house = t.house(text);
            int[][] right = {{2998, 0}, {0, 2998}, {1499, 1499}, {0, 0}, {2997, 0}};
            for (int[] pair : right) {
                house.argument(0, pair[0], 3);
                house.argument(1, pair[1], 3);
                t.dueRun(house, word + " " + pair[0] + " " + pair[1], 0, 0, 0, 0);
                dueCounts(house, word, 7, 0, 2, pair[0] + pair[1] + 2);
            }
            int[][] second = {{2999, 0}, {2998, 1}, {0, 2999}, {1500, 1499}, {5, MOST}, {0, MOST - 1}, {2999, MOST}, {2999, 1}};
            for (int[] pair : second) {
                house.argument(0, pair[0], 3);
                house.argument(1, pair[1], 3);
                t.dueRun(house, word + " " + pair[0] + " " + pair[1], 0, 6, 0, 0);
                dueCounts(house, word, 4, 0, 1, pair[0] + 1);
                t.due("object(1, 0)", house.object(1, 0), -1);
            }
            for (int length : new int[] {3000, 3001, 65536, MOST - 1, MOST}) {
                house.argument(0, length, 3);
                t.dueRun(house, word + " " + length, 0, 6, 0, 0);
                dueCounts(house, word, 1, 0, 0, 0);
            }
        }
        TaintHouse house = t.house("class A { method f() none { x: new Any; pop; goto x; } method g() none { x: push 0; ints;"
            + " pop; goto x; } }");
        t.dueRun(house, "new Any", 0, 6, 0, 0);
        dueCounts(house, "new Any", 9000, 0, 3000, 3000);
        t.due("object(2999, 0)", house.object(2999, 0), 0);
        t.dueRun(house, "ints of 0", 1, 6, 0, 0);
        dueCounts(house, "ints of 0", 12001, 0, 3000, 3000);
        t.due("object(2999, 0)", house.object(2999, 0), -2);
    }

    private void cellsOfFields() {
        t.sentence("(one each, and one for each FIELD, with those of classes above, or element),");
        StringBuilder text = new StringBuilder();
        for (int c = 0; c < 11; c++) {
            text.append("class C").append(c).append(c == 0 ? "" : " : C" + (c - 1)).append(" { ").append(Tester.times(8,
                "field x% ref; "))
                .append("} ");
        }
        // C10 has 88 fields: 89 cells; 33 of them take 2937, and 62 cells are left beside one more array.
        String loop = text + "class M { static s int; method f(int) none { load 0; ints; pop; x: new C10; pop; goto x; }"
            + " method g() none { new Any; pop; new C0; pop; new C10; pop; push 3; ints; pop; push 2; refs; pop; ret; } }";
        TaintHouse house = t.house(loop);
        house.argument(0, 62, 0);
        t.dueRun(house, "new C10", 0, 6, 0, 0);
        dueCounts(house, "new C10", 3 + 33 * 3, 0, 34, 3000);
        house.argument(0, 63, 0);
        t.dueRun(house, "new C10", 0, 6, 0, 0);
        dueCounts(house, "new C10", 3 + 32 * 3, 0, 33, 64 + 32 * 89);
        t.dueRun(house, "one of each", 1, 0, 0, 0);
        dueCounts(house, "one of each", 13, 0, 5, 1 + 9 + 89 + 4 + 3);
        t.due("object(2, 1)", house.object(2, 1), 88);
        t.due("slot(2, 87, 0)", house.slot(2, 87, 0), -1);
        t.due("slot(2, 87, 1)", house.slot(2, 87, 1), 0);
    }

    private void events() {
        t.sentence("7 a 501st EVENT.");
        String text = "class A { method f(int) none { x: load 0; sink 5; inc 0 - 1; load 0; ifgt x; ret; } }";
        TaintHouse house = t.house(text);
        house.policy(5, 4);
        for (int n : new int[] {1, 499, 500, 501, 502, 600}) {
            house.argument(0, n, 12);
            boolean over = n > 500;
            t.dueRun(house, n + " events", 0, over ? 7 : 0, 0, 0);
            dueCounts(house, n + " events", over ? 2501 : 5 * n + 1, Math.min(n, 500), 0, 0);
            t.due("result(5)", house.result(5), Math.min(n, 500));
            t.due("event(499, 1)", house.event(499, 1), n < 500 ? -1 : n - 499);
            t.due("event(499, 2)", house.event(499, 2), n < 500 ? -1 : 12);
            t.due("event(500, 1)", house.event(500, 1), -1);
        }
    }

    private void cellsOfThrown() {
        t.sentence("What is thrown takes its CELL, too.");
        String[] faults = {"null; throw;", "null; length; pop; ret;", "push 1; push 0; div; pop; ret;",
            "push - 1; ints; pop; ret;",
            "load 1; push 9999; iget; pop; ret;", "load 1; length; pop; load 1; as A; pop; ret;"};
        int[] dones = {2, 2, 3, 2, 3, 5};
        for (int i = 0; i < faults.length; i++) {
            String text = "class A { method f(int) none { load 0; ints; store 1; " + faults[i] + " } method g(int) int { load"
                + " 0; ints; store 1; a: "
                + faults[i].replace("ret;", "push 1; ret;") + " b: pop; push 3; ret; try a b b Any; } }";
            TaintHouse house = t.house(text);
            house.argument(0, 2998, 0);
            t.dueRun(house, text, 0, 3, 1, 0);
            dueCounts(house, text, 3 + dones[i], 0, 2, 3000);
            t.dueRun(house, text, 1, 1, 3, 0);
            dueCounts(house, text, 6 + dones[i], 0, 2, 3000);
            house.argument(0, 2999, 0);
            for (int m = 0; m < 2; m++) {
                t.dueRun(house, text, m, 6, 0, 0);
                dueCounts(house, text, 2 + dones[i], 0, 1, 3000);
            }
        }
        // What is an object already takes none: it is thrown where no cell is left.
        String full = "class A { method f() none { new A; push 2998; ints; pop; throw; } method g() int { a: push 2999; ints;"
            + " throw; b: length; ret; try a b b Any; } }";
        TaintHouse house = t.house(full);
        t.dueRun(house, full, 0, 3, 0, 0);
        dueCounts(house, full, 5, 0, 2, 3000);
        t.dueRun(house, full, 1, 1, 2999, 0);
    }

    private void numbers() {
        t.sentence("OBJECTS and ARRAYS are numbered from 0 on as they are made (FAULTS, too).");
        String text = "class A { field r ref; method f() ref { push 2; refs; store 0; new A; store 1; a: null; throw; b:"
            + " store 2; push 1; ints; store 3; load 1; load 2; put A r; load 0; push 1; load 3; rput; load 0; push 0; load 1;"
            + " rput; load 3; ret; try a b b Any; } }";
        TaintHouse house = t.dueRun(text, 0, 2, 3, 0);
        int[] classes = {-3, 7, 2, -2, -1};
        for (int i = 0; i < classes.length; i++) {
            t.due("object(" + i + ", 0)", house.object(i, 0), classes[i]);
        }
        t.due("slot(1, 0, 0)", house.slot(1, 0, 0), 2);
        t.due("slot(0, 0, 0)", house.slot(0, 0, 0), 1);
        t.due("slot(0, 1, 0)", house.slot(0, 1, 0), 3);
        // The next run begins with 0 again.
        t.dueRun(house, text, 0, 2, 3, 0);
    }

    private void doneAndCounted() {
        t.sentence("RUNS: an INSTRUCTION that throws is done and counts; one at which LIMIT 5, 6, 7 comes isn't, and doesn't.");
        TaintHouse house = t.dueRun("class A { method f() none { push 1; push 0; div; ret; } }", 0, 3, 0, 0);
        t.due("result(3) of div by 0", house.result(3), 3);
        house = t.dueRun("class A { method f() none { a: null; throw; b: ret; try a b b Any; } }", 0, 0, 0, 0);
        t.due("result(3) of what is caught", house.result(3), 3);
        house = t.dueRun("class A { method f() none { call A f; ret; } }", 0, 5, 0, 0);
        t.due("result(3) at limit 5", house.result(3), 23);
        house = t.dueRun("class A { method f() none { new A; virt A v; ret; } virtual v() none { load 0; virt A v; ret; } }", 0,
            5, 0, 0);
        t.due("result(3) at limit 5", house.result(3), 2 + 22 * 2 + 1);
        house = t.dueRun("class A { method f() none { push 3000; ints; ret; } }", 0, 6, 0, 0);
        t.due("result(3) at limit 6", house.result(3), 1);
        house = t.dueRun("class A { method f() none { push 2999; ints; new A; ret; } }", 0, 6, 0, 0);
        t.due("result(3) at limit 6", house.result(3), 2);
        house = t.dueRun("class A { method f() none { push 2999; ints; push - 1; refs; ret; } }", 0, 6, 0, 0);
        t.due("result(3) at limit 6 by a fault", house.result(3), 3);
        house = t.dueRun("class A { method f() none { x: push 1; sink 1; goto x; } }", 0, 7, 0, 0);
        t.due("result(3) at limit 7", house.result(3), 1501);
    }

    private void askedAheadOfLimits() {
        t.sentence("At one INSTRUCTION: null, what the ref is, index, length, 0; then LIMITS.");
        // In the 24th method: what is null or of another class is thrown, the limit comes for the others alone.
        String deep = "class A { method f(int) none { inc 0 - 1; load 0; ifgt x; @; virt A v; ret; x: load 0; call A f; ret; }"
            + " virtual v() none { ret; } } class B { }";
        String[] refs = {"null", "new B", "push 0; ints", "new A"};
        int[] faults = {2, 6, 6, -1};
        for (int i = 0; i < refs.length; i++) {
            TaintHouse house = t.house(deep.replace("@", refs[i]));
            house.argument(0, 24, 0);
            t.due("run(0) with " + refs[i], house.run(0), faults[i] < 0 ? 5 : 3);
            t.due("the fault", house.object(i == 0 ? 0 : 1, 0), faults[i]);
            house.argument(0, 23, 0);
            t.due("run(0) with " + refs[i], house.run(0), faults[i] < 0 ? 0 : 3);
        }
        // A length below 0 is asked ahead of cells, whether there are any left or not.
        String text = "class A { method f(int, int) none { load 0; ints; store 2; load 1; ints; ret; } method g(int,"
            + " int) none { load 0; ints; load 1; iget; ret; } method h(int, int) none { load 0; ints; store 2; load 1; load 1;"
            + " rem; ret; } }";
        TaintHouse house = t.house(text);
        for (int m = 0; m < 3; m++) {
            house.argument(0, 2998, 0);
            house.argument(1, m == 2 ? 0 : m == 1 ? 2998 : -1, 0);
            t.due("run(" + m + ")", house.run(m), 3);
            t.due("object(1, 0)", house.object(1, 0), m == 2 ? 5 : m == 1 ? 3 : 4);
            house.argument(0, 2999, 0);
            house.argument(1, m == 2 ? 0 : m == 1 ? 2999 : -1, 0);
            t.due("run(" + m + ")", house.run(m), 6);
            t.due("object(1, 0)", house.object(1, 0), -1);
        }
        // What is right needs no cell.
        house.argument(1, 2998, 0);
        t.due("run(1)", house.run(1), 0);
        t.due("run(2)", house.run(2), 0);
    }

    private void lengthsTakeNoCell() {
        t.sentence("A LENGTH takes no CELL.");
        String text = "class A { method f(int) none { load 0; ints; pop; ret; } method g(int) none { load 0; refs; length; pop;"
            + " ret; } }";
        TaintHouse house = t.house(text);
        for (int length : new int[] {0, 1, 10, 2999}) {
            house.argument(0, length, 65535);
            for (int m = 0; m < 2; m++) {
                t.due("run(" + m + ")", house.run(m), 0);
                t.due("result(7)", house.result(7), length + 1);
                t.due("object(0, 1)", house.object(0, 1), length);
                t.due("object(0, 2)", house.object(0, 2), 65535);
            }
        }
    }

    private void stays() {
        t.sentence("What was done ahead of a LIMIT stays to be asked.");
        String text = "class A { field x int; static s int; static q ref; method f(int) none { new A; puts A q; gets A q;"
            + " push 6; mark 3; put A x; push 8; mark 9; puts A s; source 2; sink 4; load 0; ifeq a; load 0; push 1; cmpeq b;"
            + " load 0; push 2; cmpeq c; d: source 2; sink 4; goto d; a: goto a; b: push 1; call A f; ret; c: push 9; refs;"
            + " pop; goto c; } }";
        TaintHouse house = t.house(text);
        house.input(2, 77);
        house.policy(4, 4);
        int[] endings = {4, 5, 6, 7};
        for (int way = 0; way < 4; way++) {
            house.argument(0, way, 0);
            t.dueRun(house, "way " + way, 0, endings[way], 0, 0);
            t.due("stat(0, 0)", house.stat(0, 0), 8);
            t.due("stat(0, 1)", house.stat(0, 1), 9);
            t.due("stat(1, 0)", house.stat(1, 0), way == 1 ? 23 : 0);
            t.due("slot(0, 0, 0)", house.slot(0, 0, 0), 6);
            t.due("slot(0, 0, 1)", house.slot(0, 0, 1), 3);
            t.due("object(0, 0)", house.object(0, 0), 7);
            t.due("event(0, 0)", house.event(0, 0), 4);
            t.due("event(0, 1)", house.event(0, 1), 77);
            t.due("event(0, 2)", house.event(0, 2), 4);
            t.due("event(0, 3)", house.event(0, 3), 1);
            t.due("result(4)", house.result(4), way == 3 ? 500 : way == 1 ? 24 : 1);
            t.due("result(5)", house.result(5), way == 3 ? 500 : way == 1 ? 24 : 1);
            t.due("result(6)", house.result(6), way == 2 ? 300 : way == 1 ? 24 : 1);
            t.due("result(7)", house.result(7), way == 2 ? 2 + 299 * 10 : way == 1 ? 48 : 2);
        }
    }

    private void settingsAtRun() {
        t.sentence("FLOWS are 1, 2, 4, as they are at run(); INPUTS, POLICIES likewise.");
        String text = "class A { method f() int { push 3; ints; source 1; push 5; mark 8; iput; source 2; sink 6; push 3; ints;"
            + " length; pop; push 3; ints; source 1; iget; ret; } }";
        TaintHouse house = t.house(text);
        house.flows(1);
        house.input(1, 2);
        house.input(2, 9);
        house.policy(6, 4);
        t.dueRun(house, text, 0, 1, 0, 2);
        // What is set behind the run changes nothing of it.
        house.flows(0);
        house.input(1, 0);
        house.input(2, 4);
        house.policy(6, 65535 - 4);
        t.due("result(2)", house.result(2), 2);
        t.due("slot(0, 2, 1)", house.slot(0, 2, 1), 10);
        t.due("event(0, 1)", house.event(0, 1), 9);
        t.due("event(0, 3)", house.event(0, 3), 1);
        t.due("result(5)", house.result(5), 1);
        t.dueRun(house, text, 0, 1, 0, 0);
        t.due("slot(0, 0, 1)", house.slot(0, 0, 1), 8);
        t.due("slot(0, 2, 1)", house.slot(0, 2, 1), 0);
        t.due("event(0, 1)", house.event(0, 1), 4);
        t.due("event(0, 3)", house.event(0, 3), 0);
        t.due("result(5)", house.result(5), 0);
        // Of other bits than these three nothing comes.
        house.flows(8);
        t.dueRun(house, text, 0, 1, 0, 0);
        house.flows(9);
        t.dueRun(house, text, 0, 1, 0, 2);
        house.flows(6);
        t.dueRun(house, text, 0, 1, 0, 0);
    }

    private void leftAsTheyWere() {
        t.sentence("run() of -10 leaves the latest RUN; text() leaves FLOWS, POLICIES, INPUTS.");
        String text = "class A { static s int; method f(int) int { new A; pop; load 0; sink 2; load 0; puts A s; load 0; ret; } }";
        TaintHouse house = t.house(text);
        house.argument(0, 8, 5);
        house.policy(2, 1);
        t.dueRun(house, text, 0, 1, 8, 5);
        for (int m : new int[] {1, 2, 24, -1, MOST, Integer.MIN_VALUE}) {
            t.due("run(" + m + ")", house.run(m), -10);
            int[] results = {1, 8, 5, 8, 1, 1, 1, 1};
            for (int what = 0; what < 8; what++) {
                t.due("result(" + what + ")", house.result(what), results[what]);
            }
            t.due("event(0, 1)", house.event(0, 1), 8);
            t.due("object(0, 0)", house.object(0, 0), 7);
            t.due("stat(0, 0)", house.stat(0, 0), 8);
        }
        for (String told : new String[] {text, "?", "", "class A { } class A { }", "class B { }"}) {
            house.flows(5);
            for (int k = 0; k < 16; k++) {
                house.policy(k, 100 + k);
                house.input(k, 200 + k);
            }
            Tester.read(house, told);
            t.due("count(3)", house.count(3), 5);
            t.due("flows(0)", house.flows(0), 5);
            for (int k = 0; k < 16; k++) {
                t.due("policy(" + k + ", 0)", house.policy(k, 0), 100 + k);
                t.due("input(" + k + ", 0)", house.input(k, 0), 200 + k);
            }
        }
    }
}
