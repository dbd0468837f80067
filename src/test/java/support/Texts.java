import java.util.ArrayList;
import java.util.Arrays;
import java.util.List;
import java.util.Random;
import java.util.regex.Matcher;
import java.util.regex.Pattern;

/** Makes texts by chance: most of them right, some with one token or byte changed. */
final class Texts {
    private static final String[] FAULTS =
        {"Any", "Fault", "NullFault", "BoundsFault", "SizeFault", "DivideFault", "CastFault"};
    private static final String[] SUMS =
        {"add", "sub", "mul", "div", "rem", "and", "or", "xor", "shl", "shr", "ushr"};
    private static final String[] TESTS = {"eq", "ne", "lt", "ge", "gt", "le"};
    private static final String[] NUMBERS = {"0", "1", "2", "3", "5", "7", "31", "32", "33", "40", "100", "65535",
        "2147483647", "- 1", "-2", "-7", "- 2147483648", "-0"};
    private static final String[] ODD_TOKENS = {"class", "field", "static", "method", "virtual", "int", "ref",
        "none", "try", "push", "null", "load", "store", "inc", "dup", "pop", "swap", "add", "neg", "goto", "ifeq",
        "same", "new", "get", "put", "gets", "puts", "ints", "iget", "iput", "rget", "rput", "length", "call",
        "virt", "ret", "throw", "is", "as", "source", "sink", "clean", "mark", "A", "B", "Any", "x", "f", "v", "L0",
        "L1", "H0", "abcdefghijkl", "abcdefghijklm", "0", "15", "16", "007", "65536", "32767", "32768",
        "2147483647", "2147483648", "99999999999", "{", "}", "(", ")", ";", ":", ",", "-", "# x", "@", "\u00e9"};

    private final Random random;
    private final List<Cls> classes = new ArrayList<>();
    private StringBuilder out = new StringBuilder();
    private int statics = 0;
    private int methods = 0;

    private static final class Cls {
        String name;
        Cls parent;
        final List<String[]> fields = new ArrayList<>();
        final List<String[]> statics = new ArrayList<>();
        final List<Meth> methods = new ArrayList<>();
    }

    private static final class Meth {
        String name;
        boolean virtual;
        Cls owner;
        final List<String> kinds = new ArrayList<>();
        String result;
    }

    /** The locals of the method at hand, and what the refs among them most likely are. */
    private final String[] kindOf = new String[16];
    private final String[] likely = new String[16];
    private boolean[] labelled;
    private int handlers;
    private Meth current;

    Texts(Random random) {
        this.random = random;
    }

    String next() {
        if (chance(4)) {
            return soup();
        }
        classes.clear();
        statics = 0;
        methods = 0;
        out = new StringBuilder();
        plan();
        for (Cls c : classes) {
            writeClass(c);
        }
        String text = out.toString();
        int changes = chance(55) ? 0 : 1 + random.nextInt(2);
        for (int i = 0; i < changes; i++) {
            switch (random.nextInt(7)) {
                case 0: text = changeByte(text); break;
                case 1: case 2: text = changeToken(text); break;
                default: text = changeCode(text); break;
            }
        }
        return text.length() > 4000 ? text.substring(0, 4000) : text;
    }

    /** Any tokens, behind a beginning that lets them come as far as may be. */
    private String soup() {
        String text = any("", "class A", "class A { ", "class A { method f() none { ", "class A { virtual f(");
        int n = random.nextInt(30);
        for (int i = 0; i < n; i++) {
            text += any(ODD_TOKENS) + any("", " ", " ; ", "\n");
        }
        return text;
    }

    private boolean chance(int percent) {
        return random.nextInt(100) < percent;
    }

    private String any(String... of) {
        return of[random.nextInt(of.length)];
    }

    private <T> T any(List<T> of) {
        return of.get(random.nextInt(of.size()));
    }

    private void plan() {
        int n = 1 + random.nextInt(chance(5) ? 13 : 4);
        for (int i = 0; i < n; i++) {
            Cls c = new Cls();
            c.name = chance(1) ? any("A", "Any", "Fault") : String.valueOf((char) ('A' + i));
            if (i > 0 && chance(60)) {
                c.parent = any(classes);
            }
            planMembers(c);
            classes.add(c);
        }
    }

    private void planMembers(Cls c) {
        int fields = random.nextInt(chance(3) ? 10 : 4);
        for (int i = 0; i < fields; i++) {
            c.fields.add(new String[] {chance(99) ? "x" + i : "f0", any("int", "ref")});
        }
        int more = random.nextInt(chance(3) ? 12 : 3);
        for (int i = 0; i < more && statics < (chance(1) ? 99 : 16); i++, statics++) {
            c.statics.add(new String[] {(chance(98) ? "s" : "x") + i, any("int", "ref")});
        }
        int routines = random.nextInt(chance(3) ? 12 : 4);
        for (int i = 0; i < routines && methods < (chance(1) ? 99 : 24); i++, methods++) {
            planMethod(c, i);
        }
    }

    private void planMethod(Cls c, int i) {
        Meth m = new Meth();
        m.owner = c;
        m.virtual = chance(50);
        m.name = (chance(98) ? "f" : "s") + i;
        Meth above = m.virtual ? virtualAbove(c.parent, m.name) : null;
        if (above != null && chance(98)) {
            m.kinds.addAll(above.kinds);
            m.result = above.result;
        } else {
            int kinds = random.nextInt(chance(2) ? 8 : 4);
            for (int k = 0; k < kinds; k++) {
                m.kinds.add(any("int", "ref"));
            }
            m.result = any("int", "int", "ref", "none");
        }
        c.methods.add(m);
    }

    private static Meth virtualAbove(Cls from, String name) {
        for (Cls c = from; c != null; c = c.parent) {
            for (Meth m : c.methods) {
                if (m.virtual && m.name.equals(name)) {
                    return m;
                }
            }
        }
        return null;
    }

    private void writeClass(Cls c) {
        put("class", c.name);
        if (c.parent != null) {
            put(":", c.parent.name);
        } else if (chance(20)) {
            put(":", any(FAULTS));
        } else if (chance(1)) {
            put(":", any("A", "B", "C", "Q"));
        }
        put("{");
        for (String[] f : c.fields) {
            put("field", f[0], f[1], ";");
        }
        for (String[] s : c.statics) {
            put("static", s[0], s[1], ";");
        }
        for (Meth m : c.methods) {
            writeMethod(m);
        }
        put("}");
    }

    private void put(String... tokens) {
        for (String t : tokens) {
            out.append(t).append(chance(97) ? " " : any("\n", "\t", "\r\n", "  ", " # note ; }\n", "#\n"));
        }
    }

    private void writeMethod(Meth m) {
        current = m;
        put(m.virtual ? "virtual" : "method", m.name, "(");
        for (int i = 0; i < m.kinds.size(); i++) {
            if (i > 0) {
                put(",");
            }
            put(m.kinds.get(i));
        }
        put(")", m.result, "{");
        planLocals(m);
        int statements = 1 + random.nextInt(chance(5) ? 40 : 9);
        labelled = new boolean[statements];
        handlers = chance(50) ? random.nextInt(3) : 0;
        for (int i = 0; i < statements; i++) {
            labelled[i] = chance(50);
        }
        boolean early = chance(30);
        if (early) {
            writeTries();
        }
        for (int i = 0; i < statements; i++) {
            if (labelled[i]) {
                put("L" + i, ":");
            }
            statement();
        }
        leave();
        for (int h = 0; h < handlers; h++) {
            writeHandler(h);
        }
        if (!early) {
            writeTries();
        }
        if (chance(3)) {
            put("Z:");
        }
        put("}");
    }

    private void planLocals(Meth m) {
        int k = 0;
        Arrays.fill(kindOf, null);
        if (m.virtual) {
            kindOf[0] = "ref";
            likely[0] = m.owner.name;
            k = 1;
        }
        for (String kind : m.kinds) {
            kindOf[k] = kind;
            likely[k] = anyLikely();
            k++;
        }
        int more = k + random.nextInt(5);
        for (int i = k; i < more; i++) {
            String kind = any("int", "ref");
            likely[i] = anyLikely();
            if (chance(98)) {
                value(kind, likely[i], 1);
                put("store", "" + i, ";");
            }
            kindOf[i] = kind;
        }
    }

    private String anyLikely() {
        return chance(40) ? any("ints", "refs") : any(classes).name;
    }

    private void writeHandler(int h) {
        put("H" + h, ":");
        int local = localOf("ref");
        if (local >= 0 && chance(60)) {
            put("store", "" + local, ";");
        } else if (chance(30)) {
            put(any("length", "is Fault", "is Any"), ";", "sink", "" + random.nextInt(16), ";");
        } else if (chance(30)) {
            put("throw", ";");
            return;
        } else {
            put("pop", ";");
        }
        String label = anyLabel();
        if (label != null && chance(50)) {
            put("goto", label, ";");
        } else {
            leave();
        }
    }

    private void writeTries() {
        for (int i = 0; i < handlers; i++) {
            List<Integer> ls = new ArrayList<>();
            for (int k = 0; k < labelled.length; k++) {
                if (labelled[k]) {
                    ls.add(k);
                }
            }
            if (ls.size() >= 2) {
                int a = any(ls);
                int b = any(ls);
                if (a != b || chance(2)) {
                    boolean turned = chance(1);
                    int low = turned ? Math.max(a, b) : Math.min(a, b);
                    int high = turned ? Math.min(a, b) : Math.max(a, b);
                    put("try", "L" + low, chance(99) ? "L" + high : "Z");
                    put("H" + random.nextInt(handlers), chance(50) ? "Any" : any(FAULTS), ";");
                }
            }
        }
    }

    private String anyLabel() {
        for (int i = 0; i < 5; i++) {
            int k = random.nextInt(labelled.length);
            if (labelled[k]) {
                return "L" + k;
            }
        }
        return null;
    }

    private int localOf(String kind) {
        for (int i = 0; i < 6; i++) {
            int k = random.nextInt(16);
            if (kind.equals(kindOf[k])) {
                return k;
            }
        }
        return -1;
    }

    private void leave() {
        if (chance(10)) {
            value("ref", any(classes).name, 1);
            put("throw", ";");
            return;
        }
        if (!current.result.equals("none")) {
            value(current.result, anyLikely(), 2);
        }
        put("ret", ";");
    }

    private void statement() {
        switch (random.nextInt(14)) {
            case 0: case 1: storeSome(); break;
            case 2: int k = localOf("int");
                if (k >= 0) {
                    put("inc", "" + k, any("1", "2", "- 3", "32767", "-32767"), ";");
                }
                put("push", "1", ";", "pop", ";");
                break;
            case 3: case 4: putSome(); break;
            case 5: case 6:
                value("ref", "ints", 1);
                index(1);
                value("int", null, 2);
                put("iput", ";");
                break;
            case 7:
                value("ref", "refs", 1);
                index(1);
                value("ref", anyLikely(), 1);
                put("rput", ";");
                break;
            case 8: case 9:
                value("int", null, 3);
                put("sink", "" + random.nextInt(16), ";");
                break;
            case 10: case 11: jumpSome(); break;
            case 12: callSome("none"); break;
            default:
                String kind = any("int", "ref");
                value(kind, anyLikely(), 3);
                put("pop", ";");
                break;
        }
    }

    private void storeSome() {
        String kind = any("int", "ref");
        int k = localOf(kind);
        if (k < 0) {
            put("push", "4", ";", "pop", ";");
            return;
        }
        value(kind, likely[k], 3);
        put("store", "" + k, ";");
    }

    private void putSome() {
        Cls c = any(classes);
        if (chance(50) && !c.fields.isEmpty()) {
            String[] f = any(c.fields);
            value("ref", c.name, 2);
            value(f[1], anyLikely(), 2);
            put("put", c.name, f[0], ";");
        } else if (!c.statics.isEmpty()) {
            String[] s = any(c.statics);
            value(s[1], anyLikely(), 2);
            put("puts", c.name, s[0], ";");
        } else {
            put("null", ";", "pop", ";");
        }
    }

    private void jumpSome() {
        String label = anyLabel();
        if (label == null) {
            put("source", "1", ";", "pop", ";");
            return;
        }
        switch (random.nextInt(5)) {
            case 0: case 1:
                value("int", null, 2);
                put("if" + any(TESTS), label, ";");
                break;
            case 2:
                value("int", null, 2);
                value("int", null, 2);
                put("cmp" + any(TESTS), label, ";");
                break;
            case 3:
                value("ref", anyLikely(), 1);
                put(any("ifnull", "ifsome"), label, ";");
                break;
            default:
                value("ref", anyLikely(), 1);
                value("ref", anyLikely(), 1);
                put(any("same", "other"), label, ";");
                break;
        }
    }

    private boolean callSome(String result) {
        for (int i = 0; i < 6; i++) {
            Cls c = any(classes);
            if (!c.methods.isEmpty()) {
                Meth m = any(c.methods);
                if (m.result.equals(result)) {
                    if (m.virtual) {
                        value("ref", c.name, 1);
                    }
                    for (String kind : m.kinds) {
                        value(kind, anyLikely(), 1);
                    }
                    put(m.virtual ? "virt" : "call", c.name, m.name, ";");
                    return true;
                }
            }
        }
        return false;
    }

    private void value(String kind, String like, int depth) {
        if (kind.equals("int")) {
            number(depth);
        } else {
            ref(like, depth);
        }
    }

    private void number(int depth) {
        int local = localOf("int");
        switch (random.nextInt(depth <= 0 ? 4 : 12)) {
            case 0: put("push", chance(70) ? "" + random.nextInt(6) : any(NUMBERS), ";"); break;
            case 1: case 2:
                if (local >= 0) {
                    put("load", "" + local, ";");
                } else {
                    put("push", "2", ";");
                }
                break;
            case 3: put("source", "" + random.nextInt(16), ";"); break;
            case 4: case 5:
                number(depth - 1);
                number(depth - 1);
                put(any(SUMS), ";");
                break;
            case 6:
                number(depth - 1);
                put(any("neg", "clean " + random.nextInt(65536), "mark " + random.nextInt(65536)), ";");
                break;
            case 7:
                ref("ints", depth - 1);
                index(depth - 1);
                put("iget", ";");
                break;
            case 8:
                ref(any("ints", "refs"), depth - 1);
                put("length", ";");
                break;
            case 9:
                if (!getSome("int", depth)) {
                    put("push", "1", ";");
                }
                break;
            case 10:
                ref(anyLikely(), depth - 1);
                put("is", chance(50) ? any(classes).name : any(FAULTS), ";");
                break;
            default:
                if (!callSome("int")) {
                    put("push", "3", ";", "dup", ";", "swap", ";", "pop", ";");
                }
                break;
        }
    }

    /** Most likely one that most arrays have, with marks or without. */
    private void index(int depth) {
        if (chance(15)) {
            number(depth);
        } else if (chance(50)) {
            put("push", any("0", "0", "1"), ";");
        } else {
            put("source", "" + random.nextInt(16), ";", "push", "1", ";", "and", ";");
        }
    }

    private boolean getSome(String kind, int depth) {
        Cls c = any(classes);
        if (chance(60) && !c.fields.isEmpty()) {
            String[] f = any(c.fields);
            if (f[1].equals(kind)) {
                ref(c.name, depth - 1);
                put("get", c.name, f[0], ";");
                return true;
            }
        }
        if (!c.statics.isEmpty()) {
            String[] s = any(c.statics);
            if (s[1].equals(kind)) {
                put("gets", c.name, s[0], ";");
                return true;
            }
        }
        return false;
    }

    private void ref(String like, int depth) {
        int local = localOf("ref");
        for (int i = 0; i < 4 && local >= 0 && !likely[local].equals(like); i++) {
            local = localOf("ref");
        }
        switch (random.nextInt(depth <= 0 ? 5 : 10)) {
            case 0: case 1: case 2:
                if (local >= 0) {
                    put("load", "" + local, ";");
                    return;
                }
                break;
            case 3:
                if (chance(10)) {
                    put("null", ";");
                    return;
                }
                break;
            case 5:
                ref("refs", depth - 1);
                index(depth - 1);
                put("rget", ";");
                return;
            case 6:
                if (getSome("ref", depth)) {
                    return;
                }
                break;
            case 7:
                ref(like, depth - 1);
                put("as", like.length() > 1 ? "Any" : like, ";");
                return;
            case 8:
                if (callSome("ref")) {
                    return;
                }
                break;
            default: break;
        }
        if (like.equals("ints") || like.equals("refs")) {
            if (chance(80)) {
                put("push", "" + (chance(10) ? 0 : 1 + random.nextInt(4)), ";");
            } else {
                number(depth - 1);
            }
            put(like, ";");
        } else {
            put("new", chance(90) ? like : any(FAULTS), ";");
        }
    }

    private String changeByte(String text) {
        if (text.isEmpty()) {
            return text;
        }
        int at = random.nextInt(text.length());
        String odd = any("\u0000", " ", "#", "@", "0", "9", "a", "Z", ";", "{", "}", "(", ")", ":", ",", "-", "\u00ff");
        return switch (random.nextInt(4)) {
            case 0 -> text.substring(0, at);
            case 1 -> text.substring(0, at) + text.substring(at + 1);
            case 2 -> text.substring(0, at) + odd + text.substring(at);
            default -> text.substring(0, at) + odd + text.substring(at + 1);
        };
    }

    /** An instruction more behind any ; or one of them less, or the names of two exchanged. */
    private String changeCode(String text) {
        List<Integer> ends = new ArrayList<>();
        for (int at = text.indexOf("; "); at >= 0; at = text.indexOf("; ", at + 1)) {
            ends.add(at + 2);
        }
        if (ends.size() < 2) {
            return text;
        }
        int which = random.nextInt(ends.size() - 1);
        int at = ends.get(which);
        if (chance(25)) {
            return text.substring(0, at) + text.substring(ends.get(which + 1));
        }
        String k = "" + random.nextInt(8);
        String more = any("dup", "pop", "swap", "push 1", "null", "load " + k, "store " + k, "inc " + k + " 1", "add",
            "neg", "ret", "throw", "goto L0", "goto Z", "ifeq L1", "ifnull L1", "same L0", "cmplt L1", "ints", "refs",
            "length", "iget", "iput", "rget", "rput", "new A", "is A", "as A", "get A x0", "put A x0", "gets A s0",
            "puts A s0", "call A f0", "virt A f1", "source 3", "sink 3", "clean 8", "mark 8", "try L0 L1 H0 Any");
        return text.substring(0, at) + more + " ; " + text.substring(at);
    }

    private String changeToken(String text) {
        List<int[]> tokens = new ArrayList<>();
        Matcher m = Pattern.compile("[a-zA-Z][a-zA-Z0-9]*|[0-9]+|[{}();:,-]").matcher(text);
        while (m.find()) {
            tokens.add(new int[] {m.start(), m.end()});
        }
        if (tokens.isEmpty()) {
            return text;
        }
        int[] one = any(tokens);
        int[] two = any(tokens);
        String head = text.substring(0, one[0]);
        String tail = text.substring(one[1]);
        return switch (random.nextInt(5)) {
            case 0 -> head + tail;
            case 1 -> head + any(ODD_TOKENS) + tail;
            case 2 -> head + text.substring(two[0], two[1]) + tail;
            case 3 -> text.substring(0, one[1]) + " " + text.substring(one[0], one[1]) + tail;
            default -> head + any(ODD_TOKENS) + " " + text.substring(one[0]);
        };
    }
}
