import java.io.IOException;
import java.lang.reflect.Modifier;
import java.nio.charset.StandardCharsets;
import java.nio.file.Files;
import java.nio.file.Path;
import java.util.ArrayList;
import java.util.List;

/** What stands ahead of the terms, sentence by sentence: what the class is, and its public face. */
public final class FaceEdgeTest {
    private static final Path SOURCE = Path.of("src/main/java/TaintHouse.java");
    private static final int MARK_3 = 8;
    private static final String[] FACE = {"public static final int NONE = -1;", "public TaintHouse();",
        "public boolean feed(int a, int b, int c, int d, int e);", "public boolean end(int n);", "public int text();",
        "public int place();", "public int flows(int v);", "public int policy(int k, int v);", "public int input(int k, int v);",
        "public int argument(int i, int v, int m);", "public int run(int method);", "public int result(int what);",
        "public int event(int i, int what);", "public int object(int i, int what);", "public int slot(int i, int k, int what);",
        "public int stat(int k, int what);", "public int type(int c, int what);", "public int method(int m, int what);",
        "public int count(int what);"};
    /** Arguments that are no index, no what and no text, and some that are. */
    private static final int[] NUMBERS = {0, 1, 2, 3, 7, 15, 16, 20, 500, 4001, 0x7b7b7b7b, -1, -2, Integer.MAX_VALUE,
        Integer.MIN_VALUE};

    private final Tester t;

    FaceEdgeTest(Tester tester) {
        t = tester;
    }

    public static void main(String[] args) throws IOException {
        Tester tester = new Tester();
        new FaceEdgeTest(tester).all();
        tester.finish();
    }

    void all() throws IOException {
        waysOfMarks();
        laterCalls();
        theClass();
        theMembers();
    }

    /** Each way with a mark ahead of it and behind it; and with another kind, which is a fault at ~. */
    private void waysOfMarks() {
        t.sentence("Programs of classes in text, checked kind by kind; and run so that each value carries a set of marks that tell"
            + " where it comes from: through locals, operands, fields, elements, lengths, calls, casts, and what is thrown."
            + " ==== I.");
        dueWay("source 3; store 2; load 2; neg; ret;", "load 1; store 2; load 2; ~neg; ret;", -5);
        dueWay("push 1; source 3; add; ret;", "push 1; load 1; ~add; ret;", 6);
        dueWay("new A; dup; store 2; source 3; put A x; load 2; get A x; ret;", "new A; load 1; ~put A x; push 1; ret;", 5);
        dueWay("source 3; puts A s; gets A s; ret;", "load 1; ~puts A s; push 1; ret;", 5);
        dueWay("push 2; ints; dup; store 2; push 1; source 3; iput; load 2; push 1; iget; ret;",
            "push 2; ints; push 1; load 1; ~iput; push 1; ret;", 5);
        dueWay("source 3; refs; length; ret;", "source 3; ~length; ret;", 5);
        dueWay("source 3; load 1; call A m; ret;", "load 1; source 3; ~call A m; ret;", 5);
        dueWay("load 1; as A; is A; ret;", "source 3; ~as A; is A; ret;", 0);
        dueWay("a: push 5; ints; source 3; iget; ret; b: is BoundsFault; ret; try a b b Fault;",
            "a: push 5; ints; source 3; iget; ret; b: ~neg; ret; try a b b Fault;", 1);
    }

    /** Source 3 gives 5 with the mark; the second argument, which is null, has it too. */
    private void dueWay(String items, String otherKinds, int value) {
        String head = "class A { field x int; static s int; method m(int, ref) int { load 0; ret; } method f(int, ref) int { ";
        TaintHouse house = t.house(head + items + " } }");
        house.input(3, 5);
        house.argument(1, 0, MARK_3);
        t.dueRun(house, items, 1, 1, value, MARK_3);
        t.dueFault(5, head + otherKinds + " } }");
    }

    /** What they answer is free, but they answer. */
    private void laterCalls() {
        t.sentence("An object is used for at most 512 calls after it has been made; what later calls answer is free.");
        String text = "class A { static s int; field x ref; method f(int) int { new A; pop; load 0; sink 3; gets A s; push 3;"
            + " add; dup; puts A s; ret; } }";
        TaintHouse house = t.house(text);
        int feeds = (text.length() + 19) / 20;
        for (int call = feeds + 2; call < 512; call++) {
            t.due("run(0)", house.run(0), 1);
        }
        int answered = 0;
        for (int a : NUMBERS) {
            for (int b : NUMBERS) {
                callAll(house, a, b);
                answered++;
            }
        }
        t.due("rounds of calls that answered", answered, NUMBERS.length * NUMBERS.length);
    }

    private static void callAll(TaintHouse house, int a, int b) {
        house.argument(a, b, a);
        house.input(a, b);
        house.policy(a, b);
        house.flows(a);
        house.run(a);
        house.run(0);
        house.result(a);
        house.event(a, b);
        house.object(a, b);
        house.slot(a, b, 0);
        house.slot(0, a, b);
        house.stat(a, b);
        house.type(a, b);
        house.method(a, b);
        house.count(a);
        house.feed(a, b, a, b, a);
        house.end(a);
        house.place();
        house.text();
    }

    private void theClass() {
        t.sentence("public final class TaintHouse {");
        t.due("modifiers of the class", TaintHouse.class.getModifiers(), Modifier.PUBLIC | Modifier.FINAL);
        t.due("whether it is in no package", TaintHouse.class.getPackageName().isEmpty(), true);
        t.due("whether it stands alone", TaintHouse.class.getSuperclass() == Object.class
            && TaintHouse.class.getInterfaces().length == 0, true);
    }

    private void theMembers() throws IOException {
        List<String> members = new ArrayList<>();
        for (String line : Files.readAllLines(SOURCE, StandardCharsets.US_ASCII)) {
            if (line.startsWith("    public ")) {
                members.add(line.trim().replaceFirst(" \\{$", ";"));
            }
        }
        for (String one : FACE) {
            t.sentence(one);
            t.due("how often the class has it", members.stream().filter(one::equals).count(), 1);
        }
        t.due("how many public members the class has", members.size(), FACE.length);
    }
}
