import java.util.ArrayList;
import java.util.Arrays;
import java.util.EnumSet;
import java.util.HashMap;
import java.util.HashSet;
import java.util.List;
import java.util.Map;
import java.util.Set;
import java.util.TreeMap;

/**
 * The document told a second time, with the whole Java library and none of the program's code, so
 * that RandomTest can compare the answers of both.
 */
final class Model {
    static final int NONE = -1;
    private static final List<String> FIRST =
        List.of("Any", "Fault", "NullFault", "BoundsFault", "SizeFault", "DivideFault", "CastFault");
    private static final Set<String> PLAIN = Set.of("null", "dup", "pop", "swap", "add", "sub", "mul", "div",
        "rem", "and", "or", "xor", "shl", "shr", "ushr", "neg", "ints", "refs", "iget", "iput", "rget", "rput",
        "length", "ret", "throw");
    private static final Set<String> JUMPS = Set.of("goto", "ifeq", "ifne", "iflt", "ifge", "ifgt", "ifle",
        "cmpeq", "cmpne", "cmplt", "cmpge", "cmpgt", "cmple", "ifnull", "ifsome", "same", "other");
    private static final Set<String> OF_CLASS = Set.of("new", "is", "as");
    private static final Set<String> OF_MEMBER = Set.of("get", "put", "gets", "puts", "call", "virt");
    private static final Set<String> OF_SMALL = Set.of("load", "store", "source", "sink");
    private static final Set<String> OF_MARKS = Set.of("clean", "mark");
    private static final Set<String> OTHER_WORDS =
        Set.of("class", "field", "static", "method", "virtual", "int", "ref", "none", "try", "push", "inc");

    enum Kind { INT, REF, UNSET }

    @SuppressWarnings("serial")
    static final class Wrong extends RuntimeException {
        final int at;

        Wrong(int at) {
            this.at = at;
        }
    }

    @SuppressWarnings("serial")
    static final class Fault extends RuntimeException {
        final int kind;
        final int at;

        Fault(int kind, int at) {
            this.kind = kind;
            this.at = at;
        }
    }

    @SuppressWarnings("serial")
    static final class Limit extends RuntimeException {
        final int how;

        Limit(int how) {
            this.how = how;
        }
    }

    @SuppressWarnings("serial")
    static final class Thrown extends Exception {
        final Val ref;

        Thrown(Val ref) {
            this.ref = ref;
        }
    }

    record Named(String name, int at) { }

    record Var(Named named, Kind kind, Cls owner) { }

    static final class Cls {
        int number;
        Named named;
        Named parentName;
        Cls parent;
        final List<Var> fields = new ArrayList<>();
        final List<Var> statics = new ArrayList<>();
        final List<Meth> methods = new ArrayList<>();

        boolean is(Cls that) {
            return this == that || parent != null && parent.is(that);
        }

        List<Var> allFields() {
            List<Var> all = parent == null ? new ArrayList<>() : parent.allFields();
            all.addAll(fields);
            return all;
        }
    }

    static final class Meth {
        Named named;
        Cls owner;
        boolean virtual;
        final List<Kind> kinds = new ArrayList<>();
        Kind result;
        final List<Ins> code = new ArrayList<>();
        final List<Try> tries = new ArrayList<>();
        final Map<String, Integer> labels = new HashMap<>();
        int endAt;
        int deepest;

        boolean sameKinds(Meth that) {
            return kinds.equals(that.kinds) && result == that.result;
        }

        List<Kind> locals() {
            List<Kind> all = new ArrayList<>();
            if (virtual) {
                all.add(Kind.REF);
            }
            all.addAll(kinds);
            return all;
        }
    }

    static final class Ins {
        String word;
        int at;
        final List<Named> names = new ArrayList<>();
        final List<Integer> numbers = new ArrayList<>();
        int label;
        Cls cls;
        Var var;
        Meth meth;
    }

    static final class Try {
        final List<Named> names = new ArrayList<>();
        int from;
        int to;
        int handler;
        Cls cls;
    }

    static final class Prog {
        final List<Cls> classes = new ArrayList<>();
        final List<Var> statics = new ArrayList<>();
        final List<Meth> methods = new ArrayList<>();
        final TreeMap<Long, int[]> faults = new TreeMap<>();

        Prog() {
            for (String name : FIRST) {
                Cls c = new Cls();
                c.named = new Named(name, -1);
                c.number = classes.size();
                c.parent = c.number == 0 ? null : c.number == 1 ? classes.get(0) : classes.get(1);
                classes.add(c);
            }
        }

        void fault(int kind, int at) {
            faults.put(at * 10L + kind, new int[] {kind, at});
        }

        Cls classOf(Named n) {
            for (Cls c : classes) {
                if (c.named.name().equals(n.name())) {
                    return c;
                }
            }
            fault(2, n.at());
            return null;
        }
    }

    // ---- texts

    private static final class Reader {
        final String s;
        int p = 0;
        final Prog prog = new Prog();

        Reader(String s) {
            this.s = s;
        }

        char now() {
            return p < s.length() ? s.charAt(p) : 0;
        }

        static boolean letter(char c) {
            return "abcdefghijklmnopqrstuvwxyzABCDEFGHIJKLMNOPQRSTUVWXYZ".indexOf(c) >= 0;
        }

        static boolean digit(char c) {
            return "0123456789".indexOf(c) >= 0;
        }

        void blanks() {
            while (p < s.length()) {
                if (s.charAt(p) == '#') {
                    int nl = s.indexOf(10, p);
                    p = nl < 0 ? s.length() : nl + 1;
                } else if ("\t\n\r ".indexOf(s.charAt(p)) >= 0) {
                    p++;
                } else {
                    return;
                }
            }
        }

        /** The run of letters and digits that begins here, empty if none does. */
        String peekWord() {
            blanks();
            int q = p;
            if (q < s.length() && letter(s.charAt(q))) {
                while (q < s.length() && (letter(s.charAt(q)) || digit(s.charAt(q)))) {
                    q++;
                }
            }
            return s.substring(p, q);
        }

        static boolean word(String w) {
            return PLAIN.contains(w) || JUMPS.contains(w) || OF_CLASS.contains(w) || OF_MEMBER.contains(w)
                || OF_SMALL.contains(w) || OF_MARKS.contains(w) || OTHER_WORDS.contains(w);
        }

        Named name() {
            String w = peekWord();
            if (w.isEmpty() || word(w)) {
                throw new Wrong(p);
            }
            if (w.length() > 12) {
                throw new Wrong(p + 12);
            }
            int at = p;
            p += w.length();
            return new Named(w, at);
        }

        void sign(char c) {
            if (!at(c)) {
                throw new Wrong(p);
            }
            p++;
        }

        boolean at(char c) {
            blanks();
            return p < s.length() && s.charAt(p) == c;
        }

        boolean takeIf(String w) {
            if (peekWord().equals(w)) {
                p += w.length();
                return true;
            }
            return false;
        }

        long number(long most) {
            blanks();
            int at = p;
            if (p >= s.length() || !digit(now())) {
                throw new Wrong(p);
            }
            if (now() == '0' && p + 1 < s.length() && digit(s.charAt(p + 1))) {
                throw new Wrong(p + 1);
            }
            int q = p;
            while (q < s.length() && digit(s.charAt(q))) {
                q++;
            }
            String digits = s.substring(p, q);
            if (digits.length() > 10 || Long.parseLong(digits) > most) {
                throw new Wrong(at);
            }
            p = q;
            return Long.parseLong(digits);
        }

        Kind kind() {
            if (takeIf("int")) {
                return Kind.INT;
            }
            if (takeIf("ref")) {
                return Kind.REF;
            }
            throw new Wrong(p);
        }

        Prog read() {
            do {
                cls();
                blanks();
            } while (p < s.length());
            return prog;
        }

        void cls() {
            peekWord();
            if (prog.classes.size() == 19 || !takeIf("class")) {
                throw new Wrong(p);
            }
            Cls c = new Cls();
            c.number = prog.classes.size();
            c.named = name();
            if (at(':')) {
                p++;
                c.parentName = name();
            }
            sign('{');
            prog.classes.add(c);
            while (!at('}')) {
                member(c);
            }
            p++;
        }

        void member(Cls c) {
            int start = p;
            if (takeIf("field")) {
                if (c.fields.size() == 8) {
                    throw new Wrong(start);
                }
                Named n = name();
                c.fields.add(new Var(n, kind(), c));
                sign(';');
            } else if (takeIf("static")) {
                if (prog.statics.size() == 16) {
                    throw new Wrong(start);
                }
                Named n = name();
                Var v = new Var(n, kind(), c);
                c.statics.add(v);
                prog.statics.add(v);
                sign(';');
            } else if (peekWord().equals("method") || peekWord().equals("virtual")) {
                if (prog.methods.size() == 24) {
                    throw new Wrong(start);
                }
                meth(c);
            } else {
                throw new Wrong(start);
            }
        }

        void meth(Cls c) {
            Meth m = new Meth();
            m.owner = c;
            m.virtual = takeIf("virtual") || !takeIf("method");
            m.named = name();
            sign('(');
            if (!at(')')) {
                m.kinds.add(kind());
                while (m.kinds.size() < 6 && at(',')) {
                    p++;
                    m.kinds.add(kind());
                }
            }
            sign(')');
            if (!takeIf("none")) {
                m.result = kind();
            }
            sign('{');
            c.methods.add(m);
            prog.methods.add(m);
            while (!at('}')) {
                item(m);
            }
            m.endAt = p;
            p++;
        }

        void item(Meth m) {
            String w = peekWord();
            int at = p;
            if (w.equals("try")) {
                if (m.tries.size() == 8) {
                    throw new Wrong(at);
                }
                p += 3;
                Try t = new Try();
                for (int i = 0; i < 4; i++) {
                    t.names.add(name());
                }
                m.tries.add(t);
                sign(';');
            } else if (instruction(w)) {
                if (m.code.size() == 100) {
                    throw new Wrong(at);
                }
                p += w.length();
                Ins i = new Ins();
                i.word = w;
                i.at = at;
                operands(i);
                m.code.add(i);
                sign(';');
            } else {
                Named n = name();
                sign(':');
                if (m.labels.containsKey(n.name())) {
                    prog.fault(1, n.at());
                } else {
                    m.labels.put(n.name(), m.code.size());
                }
            }
        }

        static boolean instruction(String w) {
            return word(w) && (!OTHER_WORDS.contains(w) || w.equals("push") || w.equals("inc"));
        }

        void operands(Ins i) {
            if (JUMPS.contains(i.word) || OF_CLASS.contains(i.word)) {
                i.names.add(name());
            } else if (OF_MEMBER.contains(i.word)) {
                i.names.add(name());
                i.names.add(name());
            } else if (OF_SMALL.contains(i.word)) {
                i.numbers.add((int) number(15));
            } else if (OF_MARKS.contains(i.word)) {
                i.numbers.add((int) number(65535));
            } else if (i.word.equals("push")) {
                signed(i, 2147483647L, 2147483648L);
            } else if (i.word.equals("inc")) {
                i.numbers.add((int) number(15));
                signed(i, 32767, 32767);
            }
        }

        void signed(Ins i, long most, long mostBehindMinus) {
            if (at('-')) {
                p++;
                i.numbers.add((int) -number(mostBehindMinus));
            } else {
                i.numbers.add((int) number(most));
            }
        }
    }

    // ---- faults 1 to 4

    private static void checkNames(Prog prog) {
        Set<String> told = new HashSet<>();
        for (Cls c : prog.classes) {
            if (!told.add(c.named.name())) {
                prog.fault(1, c.named.at());
            }
            if (c.number >= 7) {
                c.parent = prog.classes.get(0);
                if (c.parentName != null) {
                    Cls above = null;
                    for (Cls d : prog.classes.subList(0, c.number)) {
                        if (above == null && d.named.name().equals(c.parentName.name())) {
                            above = d;
                        }
                    }
                    if (above == null) {
                        prog.fault(2, c.parentName.at());
                    } else {
                        c.parent = above;
                    }
                }
            }
            List<Named> members = new ArrayList<>();
            c.fields.forEach(f -> members.add(f.named()));
            c.statics.forEach(f -> members.add(f.named()));
            c.methods.forEach(m -> members.add(m.named));
            members.sort((x, y) -> x.at() - y.at());
            Set<String> names = new HashSet<>();
            for (Named n : members) {
                if (!names.add(n.name())) {
                    prog.fault(1, n.at());
                }
            }
        }
        for (Meth m : prog.methods) {
            checkMethodNames(prog, m);
        }
        if (!prog.faults.isEmpty()) {
            int[] first = prog.faults.firstEntry().getValue();
            throw new Fault(first[0], first[1]);
        }
    }

    private static void checkMethodNames(Prog prog, Meth m) {
        if (m.virtual) {
            Meth above = method(m.owner.parent, m.named.name(), true);
            if (above != null && !above.sameKinds(m)) {
                prog.fault(3, m.named.at());
            }
        }
        for (Ins i : m.code) {
            if (JUMPS.contains(i.word)) {
                i.label = label(prog, m, i.names.get(0));
            } else if (!i.names.isEmpty()) {
                i.cls = prog.classOf(i.names.get(0));
                if (i.cls != null && i.names.size() == 2) {
                    bindMember(prog, i, i.names.get(1));
                }
            }
        }
        for (Try t : m.tries) {
            t.from = label(prog, m, t.names.get(0));
            t.to = label(prog, m, t.names.get(1));
            t.handler = label(prog, m, t.names.get(2));
            t.cls = prog.classOf(t.names.get(3));
            if (t.from >= 0 && t.to >= 0 && t.handler >= 0 && t.to <= t.from) {
                prog.fault(4, t.names.get(0).at());
            }
        }
    }

    private static int label(Prog prog, Meth m, Named n) {
        if (!m.labels.containsKey(n.name())) {
            prog.fault(2, n.at());
            return -1;
        }
        return m.labels.get(n.name());
    }

    private static void bindMember(Prog prog, Ins i, Named n) {
        switch (i.word) {
            case "get", "put" -> i.var = variable(i.cls, n.name(), false);
            case "gets", "puts" -> i.var = variable(i.cls, n.name(), true);
            default -> i.meth = method(i.cls, n.name(), i.word.equals("virt"));
        }
        if (i.var == null && i.meth == null) {
            prog.fault(2, n.at());
        }
    }

    private static Var variable(Cls from, String name, boolean isStatic) {
        for (Cls c = from; c != null; c = c.parent) {
            for (Var v : isStatic ? c.statics : c.fields) {
                if (v.named().name().equals(name)) {
                    return v;
                }
            }
        }
        return null;
    }

    private static Meth method(Cls from, String name, boolean virtual) {
        for (Cls c = from; c != null; c = c.parent) {
            for (Meth m : c.methods) {
                if (m.virtual == virtual && m.named.name().equals(name)) {
                    return m;
                }
            }
        }
        return null;
    }

    // ---- fault 5

    private static final class Looker {
        final Meth m;
        final List<List<Kind>> stacks = new ArrayList<>();
        final List<List<EnumSet<Kind>>> locals = new ArrayList<>();
        final Set<Integer> news = new HashSet<>();

        Looker(Meth m) {
            this.m = m;
            for (int i = 0; i < m.code.size(); i++) {
                stacks.add(null);
                locals.add(null);
            }
        }

        void look() {
            List<EnumSet<Kind>> first = new ArrayList<>();
            for (int i = 0; i < 16; i++) {
                first.add(EnumSet.of(i < m.locals().size() ? m.locals().get(i) : Kind.UNSET));
            }
            come(0, new ArrayList<>(), first);
            while (!news.isEmpty()) {
                int i = news.stream().min(Integer::compare).get();
                news.remove(i);
                one(i);
            }
            for (List<Kind> s : stacks) {
                m.deepest = Math.max(m.deepest, s == null ? 0 : s.size());
            }
        }

        void come(int i, List<Kind> stack, List<EnumSet<Kind>> ls) {
            if (i == m.code.size()) {
                throw new Fault(5, m.endAt);
            }
            if (stacks.get(i) == null) {
                stacks.set(i, new ArrayList<>(stack));
                locals.set(i, copy(ls));
                news.add(i);
                return;
            }
            if (!stacks.get(i).equals(stack)) {
                throw new Fault(5, m.code.get(i).at);
            }
            for (int k = 0; k < 16; k++) {
                if (locals.get(i).get(k).addAll(ls.get(k))) {
                    news.add(i);
                }
            }
        }

        static List<EnumSet<Kind>> copy(List<EnumSet<Kind>> ls) {
            List<EnumSet<Kind>> c = new ArrayList<>();
            ls.forEach(l -> c.add(EnumSet.copyOf(l)));
            return c;
        }

        void one(int at) {
            Ins i = m.code.get(at);
            List<EnumSet<Kind>> before = copy(locals.get(at));
            List<EnumSet<Kind>> after = copy(before);
            List<Kind> stack = new ArrayList<>(stacks.get(at));
            effect(i, stack, after);
            if (stack.size() > 16) {
                throw new Fault(5, i.at);
            }
            if (!List.of("goto", "ret", "throw").contains(i.word)) {
                come(at + 1, stack, after);
            }
            if (JUMPS.contains(i.word)) {
                come(i.label, stack, after);
            }
            for (Try t : m.tries) {
                if (at >= t.from && at < t.to) {
                    come(t.handler, List.of(Kind.REF), before);
                }
            }
        }

        void take(Ins i, List<Kind> stack, Kind... kinds) {
            for (int k = kinds.length - 1; k >= 0; k--) {
                if (stack.isEmpty() || stack.remove(stack.size() - 1) != kinds[k]) {
                    throw new Fault(5, i.at);
                }
            }
        }

        Kind any(Ins i, List<Kind> stack) {
            if (stack.isEmpty()) {
                throw new Fault(5, i.at);
            }
            return stack.remove(stack.size() - 1);
        }

        void effect(Ins i, List<Kind> stack, List<EnumSet<Kind>> ls) {
            Kind n = Kind.INT;
            Kind r = Kind.REF;
            switch (i.word) {
                case "push", "source" -> stack.add(n);
                case "null", "new" -> stack.add(r);
                case "load", "inc" -> {
                    EnumSet<Kind> l = ls.get(i.numbers.get(0));
                    boolean fine = l.size() == 1 && !l.contains(Kind.UNSET);
                    if (!fine || i.word.equals("inc") && !l.contains(n)) {
                        throw new Fault(5, i.at);
                    }
                    if (i.word.equals("load")) {
                        stack.add(l.iterator().next());
                    }
                }
                case "store" -> ls.set(i.numbers.get(0), EnumSet.of(any(i, stack)));
                case "dup" -> {
                    Kind k = any(i, stack);
                    stack.addAll(List.of(k, k));
                }
                case "pop" -> any(i, stack);
                case "swap" -> {
                    Kind b = any(i, stack);
                    Kind a = any(i, stack);
                    stack.addAll(List.of(b, a));
                }
                case "add", "sub", "mul", "div", "rem", "and", "or", "xor", "shl", "shr", "ushr" -> {
                    take(i, stack, n, n);
                    stack.add(n);
                }
                case "neg", "clean", "mark" -> {
                    take(i, stack, n);
                    stack.add(n);
                }
                case "goto" -> { }
                case "ifeq", "ifne", "iflt", "ifge", "ifgt", "ifle", "sink" -> take(i, stack, n);
                case "cmpeq", "cmpne", "cmplt", "cmpge", "cmpgt", "cmple" -> take(i, stack, n, n);
                case "ifnull", "ifsome", "throw" -> take(i, stack, r);
                case "same", "other" -> take(i, stack, r, r);
                case "get" -> {
                    take(i, stack, r);
                    stack.add(i.var.kind());
                }
                case "put" -> take(i, stack, r, i.var.kind());
                case "gets" -> stack.add(i.var.kind());
                case "puts" -> take(i, stack, i.var.kind());
                case "ints", "refs" -> {
                    take(i, stack, n);
                    stack.add(r);
                }
                case "iget" -> {
                    take(i, stack, r, n);
                    stack.add(n);
                }
                case "rget" -> {
                    take(i, stack, r, n);
                    stack.add(r);
                }
                case "iput" -> take(i, stack, r, n, n);
                case "rput" -> take(i, stack, r, n, r);
                case "length", "is" -> {
                    take(i, stack, r);
                    stack.add(n);
                }
                case "as" -> {
                    take(i, stack, r);
                    stack.add(r);
                }
                case "call", "virt" -> {
                    take(i, stack, i.meth.locals().toArray(new Kind[0]));
                    if (i.meth.result != null) {
                        stack.add(i.meth.result);
                    }
                }
                case "ret" -> {
                    if (m.result != null) {
                        take(i, stack, m.result);
                    }
                }
                default -> throw new IllegalStateException(i.word);
            }
        }
    }

    // ---- runs

    /** A ref has its Obj, null of null; an int its number. */
    record Val(boolean ref, int number, Obj obj, int marks) {
        Val with(int more) {
            return new Val(ref, number, obj, marks | more);
        }

        Val only(int these) {
            return new Val(ref, number, obj, these);
        }

        int told() {
            return !ref ? number : obj == null ? NONE : obj.index;
        }
    }

    private static Val num(int number, int marks) {
        return new Val(false, number, null, marks);
    }

    private static Val ref(Obj obj, int marks) {
        return new Val(true, 0, obj, marks);
    }

    static final class Obj {
        int index;
        Cls cls;
        boolean ofRefs;
        Val[] slots;
        int lengthMarks;

        boolean is(Cls c) {
            return cls == null ? c.number == 0 : cls.is(c);
        }
    }

    record Event(int k, int number, int marks, boolean alarm) { }

    final class Run {
        final int flows = Model.this.flows;
        int how = NONE;
        Val end = num(0, 0);
        int done = 0;
        int depth = 0;
        int cells = 0;
        final List<Obj> objects = new ArrayList<>();
        final List<Event> events = new ArrayList<>();
        final Map<Var, Val> statics = new HashMap<>();

        void all(Meth m) {
            for (Var v : prog.statics) {
                statics.put(v, zero(v.kind()));
            }
            List<Val> given = new ArrayList<>();
            for (int i = 0; i < m.locals().size(); i++) {
                Val a = arguments[i];
                given.add(m.locals().get(i) == Kind.REF ? ref(null, a.marks()) : a);
            }
            try {
                Val answer = invoke(m, given);
                how = m.result == null ? 0 : m.result == Kind.INT ? 1 : 2;
                end = answer == null ? end : answer;
            } catch (Limit limit) {
                how = limit.how;
            } catch (Thrown thrown) {
                how = 3;
                end = thrown.ref;
            }
        }

        Val zero(Kind kind) {
            return kind == Kind.INT ? num(0, 0) : ref(null, 0);
        }

        Val invoke(Meth m, List<Val> given) throws Thrown {
            if (depth == 24) {
                throw new Limit(5);
            }
            depth++;
            Val[] locals = new Val[16];
            for (int i = 0; i < given.size(); i++) {
                locals[i] = given.get(i);
            }
            List<Val> stack = new ArrayList<>();
            int at = 0;
            while (true) {
                if (done == 20000) {
                    throw new Limit(4);
                }
                Ins i = m.code.get(at);
                try {
                    if (i.word.equals("ret")) {
                        done++;
                        depth--;
                        return m.result == null ? null : stack.get(stack.size() - 1);
                    }
                    at = step(i, at, locals, stack);
                } catch (Thrown thrown) {
                    at = catcher(m, at, thrown);
                    stack.clear();
                    stack.add(thrown.ref);
                }
            }
        }

        int catcher(Meth m, int at, Thrown thrown) throws Thrown {
            for (Try t : m.tries) {
                if (t.from <= at && at < t.to && thrown.ref.obj().is(t.cls)) {
                    return t.handler;
                }
            }
            depth--;
            throw thrown;
        }

        Val pop(List<Val> stack) {
            return stack.remove(stack.size() - 1);
        }

        Obj make(Cls cls, boolean ofRefs, Val[] slots, int lengthMarks) {
            if ((long) cells + 1 + slots.length > 3000) {
                throw new Limit(6);
            }
            cells += 1 + slots.length;
            Obj o = new Obj();
            o.index = objects.size();
            o.cls = cls;
            o.ofRefs = ofRefs;
            o.slots = slots;
            o.lengthMarks = lengthMarks;
            objects.add(o);
            return o;
        }

        Thrown fault(String name, Val... took) {
            int marks = 0;
            for (Val v : took) {
                marks |= v.marks();
            }
            Obj o = make(prog.classes.get(FIRST.indexOf(name)), false, new Val[0], 0);
            done++;
            return new Thrown(ref(o, marks));
        }

        int step(Ins i, int at, Val[] locals, List<Val> stack) throws Thrown {
            if (i.word.equals("call") || i.word.equals("virt")) {
                call(i, stack);
                return at + 1;
            }
            int next = at + 1;
            if (JUMPS.contains(i.word)) {
                next = jumps(i.word, stack) ? i.label : next;
            } else {
                act(i, locals, stack);
            }
            done++;
            return next;
        }

        void call(Ins i, List<Val> stack) throws Thrown {
            List<Val> tail = stack.subList(stack.size() - i.meth.locals().size(), stack.size());
            List<Val> given = new ArrayList<>(tail);
            Meth target = i.meth;
            if (i.word.equals("virt")) {
                Val[] all = given.toArray(new Val[0]);
                Obj o = given.get(0).obj();
                if (o == null) {
                    throw fault("NullFault", all);
                }
                if (o.cls == null || !o.is(i.cls)) {
                    throw fault("CastFault", all);
                }
                target = method(o.cls, i.meth.named.name(), true);
            }
            if (depth == 24) {
                throw new Limit(5);
            }
            tail.clear();
            done++;
            Val answer = invoke(target, given);
            if (answer != null) {
                stack.add(answer);
            }
        }

        boolean jumps(String word, List<Val> stack) {
            if (word.equals("goto")) {
                return true;
            }
            Val top = pop(stack);
            switch (word) {
                case "ifnull": return top.obj() == null;
                case "ifsome": return top.obj() != null;
                case "same": return pop(stack).obj() == top.obj();
                case "other": return pop(stack).obj() != top.obj();
                default: break;
            }
            boolean two = word.startsWith("cmp");
            int sign = two ? Integer.compare(pop(stack).number(), top.number()) : Integer.signum(top.number());
            return switch (word.substring(two ? 3 : 2)) {
                case "eq" -> sign == 0;
                case "ne" -> sign != 0;
                case "lt" -> sign < 0;
                case "ge" -> sign >= 0;
                case "gt" -> sign > 0;
                default -> sign <= 0;
            };
        }

        void act(Ins i, Val[] locals, List<Val> stack) throws Thrown {
            int k = i.numbers.isEmpty() ? 0 : i.numbers.get(0);
            switch (i.word) {
                case "push" -> stack.add(num(k, 0));
                case "null" -> stack.add(ref(null, 0));
                case "load" -> stack.add(locals[k]);
                case "store" -> locals[k] = pop(stack);
                case "inc" -> locals[k] = num(locals[k].number() + i.numbers.get(1), locals[k].marks());
                case "dup" -> stack.add(stack.get(stack.size() - 1));
                case "pop" -> pop(stack);
                case "swap" -> {
                    Val top = pop(stack);
                    stack.add(stack.size() - 1, top);
                }
                case "neg" -> {
                    Val v = pop(stack);
                    stack.add(num(-v.number(), v.marks()));
                }
                case "new" -> {
                    List<Var> fields = i.cls.allFields();
                    Val[] slots = new Val[fields.size()];
                    for (int f = 0; f < slots.length; f++) {
                        slots[f] = zero(fields.get(f).kind());
                    }
                    stack.add(ref(make(i.cls, false, slots, 0), 0));
                }
                case "get" -> {
                    Val r = pop(stack);
                    Val field = object(r, i.cls, r).slots[slotOf(r, i.var)];
                    stack.add(field.with((flows & 2) != 0 ? r.marks() : 0));
                }
                case "put" -> {
                    Val v = pop(stack);
                    Val r = pop(stack);
                    Obj o = object(r, i.cls, r, v);
                    o.slots[slotOf(r, i.var)] = v.with((flows & 4) != 0 ? r.marks() : 0);
                }
                case "gets" -> stack.add(statics.get(i.var));
                case "puts" -> statics.put(i.var, pop(stack));
                case "ints", "refs" -> {
                    Val n = pop(stack);
                    if (n.number() < 0) {
                        throw fault("SizeFault", n);
                    }
                    if (n.number() > 3000) {
                        throw new Limit(6);
                    }
                    boolean ofRefs = i.word.equals("refs");
                    Val[] slots = new Val[n.number()];
                    Arrays.fill(slots, zero(ofRefs ? Kind.REF : Kind.INT));
                    stack.add(ref(make(null, ofRefs, slots, n.marks()), 0));
                }
                case "iget", "rget" -> {
                    Val x = pop(stack);
                    Val r = pop(stack);
                    Val e = array(r, i.word.equals("rget"), x, r, x).slots[x.number()];
                    e = e.with((flows & 1) != 0 ? x.marks() : 0);
                    stack.add(e.with((flows & 2) != 0 ? r.marks() : 0));
                }
                case "iput", "rput" -> {
                    Val v = pop(stack);
                    Val x = pop(stack);
                    Val r = pop(stack);
                    Obj o = array(r, i.word.equals("rput"), x, r, x, v);
                    v = v.with((flows & 1) != 0 ? x.marks() : 0);
                    o.slots[x.number()] = v.with((flows & 4) != 0 ? r.marks() : 0);
                }
                case "length" -> {
                    Val r = pop(stack);
                    if (r.obj() == null) {
                        throw fault("NullFault", r);
                    }
                    if (r.obj().cls != null) {
                        throw fault("CastFault", r);
                    }
                    int more = (flows & 2) != 0 ? r.marks() : 0;
                    stack.add(num(r.obj().slots.length, r.obj().lengthMarks | more));
                }
                case "throw" -> {
                    Val r = pop(stack);
                    if (r.obj() == null) {
                        throw fault("NullFault", r);
                    }
                    done++;
                    throw new Thrown(r);
                }
                case "is" -> {
                    Val r = pop(stack);
                    stack.add(num(r.obj() != null && r.obj().is(i.cls) ? 1 : 0, r.marks()));
                }
                case "as" -> {
                    Val r = pop(stack);
                    if (r.obj() != null && !r.obj().is(i.cls)) {
                        throw fault("CastFault", r);
                    }
                    stack.add(r);
                }
                case "source" -> stack.add(num(inputs[k], 1 << k));
                case "sink" -> {
                    Val v = pop(stack);
                    if (events.size() == 500) {
                        throw new Limit(7);
                    }
                    events.add(new Event(k, v.number(), v.marks(), (v.marks() & policies[k]) != 0));
                }
                case "clean" -> {
                    Val v = pop(stack);
                    stack.add(v.only(v.marks() & ~k));
                }
                case "mark" -> stack.add(pop(stack).with(k));
                default -> calculate(i.word, stack);
            }
        }

        void calculate(String word, List<Val> stack) throws Thrown {
            Val y = pop(stack);
            Val x = pop(stack);
            long a = x.number();
            long b = y.number();
            if (b == 0 && (word.equals("div") || word.equals("rem"))) {
                throw fault("DivideFault", x, y);
            }
            long made = switch (word) {
                case "add" -> a + b;
                case "sub" -> a - b;
                case "mul" -> a * b;
                case "div" -> a / b;
                case "rem" -> a % b;
                case "and" -> a & b;
                case "or" -> a | b;
                case "xor" -> a ^ b;
                case "shl" -> a << (b & 31);
                case "shr" -> a >> (b & 31);
                default -> (a & 0xFFFFFFFFL) >> (b & 31);
            };
            stack.add(num((int) made, x.marks() | y.marks()));
        }

        Obj object(Val r, Cls cls, Val... took) throws Thrown {
            if (r.obj() == null) {
                throw fault("NullFault", took);
            }
            if (r.obj().cls == null || !r.obj().is(cls)) {
                throw fault("CastFault", took);
            }
            return r.obj();
        }

        int slotOf(Val r, Var field) {
            List<Var> all = r.obj().cls.allFields();
            for (int i = 0; i < all.size(); i++) {
                if (all.get(i) == field) {
                    return i;
                }
            }
            throw new IllegalStateException();
        }

        Obj array(Val r, boolean ofRefs, Val index, Val... took) throws Thrown {
            if (r.obj() == null) {
                throw fault("NullFault", took);
            }
            if (r.obj().cls != null || r.obj().ofRefs != ofRefs) {
                throw fault("CastFault", took);
            }
            if (index.number() < 0 || index.number() >= r.obj().slots.length) {
                throw fault("BoundsFault", took);
            }
            return r.obj();
        }
    }

    // ---- the face

    private final StringBuilder tape = new StringBuilder();
    private Prog prog = new Prog();
    private Run latest = null;
    private int faultAt = NONE;
    private int flows = 0;
    private final int[] policies = new int[16];
    private final int[] inputs = new int[16];
    private final Val[] arguments = new Val[7];

    Model() {
        Arrays.fill(arguments, num(0, 0));
    }

    boolean feed(int... numbers) {
        if (tape.length() > 3980) {
            return false;
        }
        for (int n : numbers) {
            tape.append((char) (n >>> 24)).append((char) (n >> 16 & 255)).append((char) (n >> 8 & 255));
            tape.append((char) (n & 255));
        }
        return true;
    }

    boolean end(int n) {
        if (n < 0 || n > tape.length()) {
            return false;
        }
        tape.setLength(n);
        return true;
    }

    int text() {
        String s = tape.toString();
        tape.setLength(0);
        faultAt = NONE;
        try {
            Prog p = new Reader(s).read();
            checkNames(p);
            for (Meth m : p.methods) {
                new Looker(m).look();
            }
            prog = p;
            latest = null;
            Arrays.fill(arguments, num(0, 0));
            return p.methods.size();
        } catch (Wrong wrong) {
            return -1 - wrong.at;
        } catch (Fault fault) {
            faultAt = fault.at;
            return -5000 - fault.kind;
        }
    }

    int place() {
        return faultAt;
    }

    int flows(int v) {
        int was = flows;
        flows = v & 7;
        return was;
    }

    int policy(int k, int v) {
        if (k < 0 || k > 15) {
            return -15;
        }
        int was = policies[k];
        policies[k] = v & 0xFFFF;
        return was;
    }

    int input(int k, int v) {
        if (k < 0 || k > 15) {
            return NONE;
        }
        int was = inputs[k];
        inputs[k] = v;
        return was;
    }

    int argument(int i, int v, int m) {
        if (i < 0 || i > 6) {
            return -15;
        }
        arguments[i] = num(v, m & 0xFFFF);
        return 1;
    }

    int run(int method) {
        if (method < 0 || method >= prog.methods.size()) {
            return -10;
        }
        latest = new Run();
        latest.all(prog.methods.get(method));
        return latest.how;
    }

    int result(int what) {
        return latest == null ? NONE : pick(what, latest.how, latest.end.told(), latest.end.marks(), latest.done,
            latest.events.size(), (int) latest.events.stream().filter(Event::alarm).count(),
            latest.objects.size(), latest.cells);
    }

    int event(int i, int what) {
        if (latest == null || i < 0 || i >= latest.events.size()) {
            return NONE;
        }
        Event e = latest.events.get(i);
        return pick(what, e.k(), e.number(), e.marks(), e.alarm() ? 1 : 0);
    }

    int object(int i, int what) {
        if (latest == null || i < 0 || i >= latest.objects.size()) {
            return NONE;
        }
        Obj o = latest.objects.get(i);
        int sort = o.cls != null ? o.cls.number : o.ofRefs ? -3 : -2;
        return pick(what, sort, o.slots.length, o.lengthMarks);
    }

    int slot(int i, int k, int what) {
        if (object(i, 1) <= k || k < 0) {
            return NONE;
        }
        Val v = latest.objects.get(i).slots[k];
        return pick(what, v.told(), v.marks());
    }

    int stat(int k, int what) {
        if (latest == null || k < 0 || k >= prog.statics.size()) {
            return NONE;
        }
        Val v = latest.statics.get(prog.statics.get(k));
        return pick(what, v.told(), v.marks());
    }

    int type(int c, int what) {
        if (c < 0 || c >= prog.classes.size()) {
            return NONE;
        }
        Cls cls = prog.classes.get(c);
        int parent = cls.parent == null ? NONE : cls.parent.number;
        return pick(what, parent, cls.allFields().size(), cls.methods.size());
    }

    int method(int m, int what) {
        if (m < 0 || m >= prog.methods.size()) {
            return NONE;
        }
        Meth meth = prog.methods.get(m);
        int result = meth.result == null ? 0 : meth.result == Kind.INT ? 1 : 2;
        return pick(what, meth.owner.number, meth.kinds.size(), result, meth.virtual ? 1 : 0, meth.code.size(),
            meth.deepest);
    }

    int count(int what) {
        return pick(what, prog.classes.size(), prog.methods.size(), prog.statics.size(), flows, tape.length());
    }

    private static int pick(int what, int... answers) {
        return what < 0 || what >= answers.length ? NONE : answers[what];
    }
}
