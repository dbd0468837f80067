import java.util.ArrayList;
import java.util.List;

/** The words of the document, and the instructions: what is told to them, what they take and give. */
final class Words {
    static final List<String> MEMBERS = List.of("class field static method virtual int ref none try".split(" "));
    static final List<String> PLAIN = List.of(("null dup pop swap add sub mul div rem and or xor shl shr ushr neg ints refs"
        + " iget iput rget rput length ret throw").split(" "));
    static final List<String> JUMPS = List.of(("goto ifeq ifne iflt ifge ifgt ifle cmpeq cmpne cmplt cmpge cmpgt cmple"
        + " ifnull ifsome same other").split(" "));
    static final List<String> OF_CLASS = List.of("new is as".split(" "));
    static final List<String> OF_MEMBER = List.of("get put gets puts call virt".split(" "));
    static final List<String> OF_NUMBER = List.of("push load store inc source sink clean mark".split(" "));
    static final List<String> FIRST_CLASSES =
        List.of("Any Fault NullFault BoundsFault SizeFault DivideFault CastFault".split(" "));

    /** Each with the kinds that it takes, the last one on top, and those that it gives; of the class below. */
    static final String[] TAKEN_AND_GIVEN = {"push 1: >i", "null: >r", "add: ii>i", "sub: ii>i", "mul: ii>i", "div: ii>i",
        "rem: ii>i", "and: ii>i", "or: ii>i", "xor: ii>i", "shl: ii>i", "shr: ii>i", "ushr: ii>i", "neg: i>i", "ifeq L: i>",
        "ifne L: i>", "iflt L: i>", "ifge L: i>", "ifgt L: i>", "ifle L: i>", "cmpeq L: ii>", "cmpne L: ii>",
        "cmplt L: ii>", "cmpge L: ii>", "cmpgt L: ii>", "cmple L: ii>", "ifnull L: r>", "ifsome L: r>",
        "same L: rr>", "other L: rr>", "new A: >r", "get A x: r>i", "get A r: r>r", "put A x: ri>",
        "put A r: rr>", "gets A s: >i", "gets A t: >r", "puts A s: i>", "puts A t: r>", "ints: i>r", "refs: i>r",
        "iget: ri>i", "iput: rii>", "rget: ri>r", "rput: rir>", "length: r>i", "call A m: ir>i", "call A n: >",
        "virt A v: rri>r", "is A: r>i", "as A: r>r", "source 3: >i", "sink 3: i>", "clean 1: i>i", "mark 1: i>i",
        "goto L: >"};

    /** A class that has all that those instructions ask for, and a method f, its fourth one. */
    static String withMethod(String head, String items) {
        return "class A { field x int; field r ref; static s int; static t ref; method m(int, ref) int { push 1; ret; }"
            + " method n() none { ret; } virtual v(ref, int) ref { null; ret; } method f" + head + " { " + items + "} }";
    }

    /** Instructions that push these kinds: i an int, r a ref. */
    static String pushes(String kinds) {
        StringBuilder all = new StringBuilder();
        for (char kind : kinds.toCharArray()) {
            all.append(kind == 'i' ? "push 1; " : "null; ");
        }
        return all.toString();
    }

    /** Instructions that take these kinds, the last one first, and no others. */
    static String takes(String kinds) {
        StringBuilder all = new StringBuilder();
        for (int i = kinds.length() - 1; i >= 0; i--) {
            all.append(kinds.charAt(i) == 'i' ? "sink 0; " : "as Any; pop; ");
        }
        return all.toString();
    }

    /** All 68. */
    static List<String> all() {
        List<String> words = new ArrayList<>(MEMBERS);
        for (List<String> some : List.of(PLAIN, JUMPS, OF_CLASS, OF_MEMBER, OF_NUMBER)) {
            words.addAll(some);
        }
        return words;
    }

    private Words() {
    }
}
