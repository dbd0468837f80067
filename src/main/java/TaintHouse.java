import java.util.Arrays;

/**
 * Programs of classes in text, checked kind by kind, and run so that each value carries a set of
 * marks that tell where it comes from. The constructors make all rows, the calls use them again.
 */
public final class TaintHouse {
    public static final int NONE = -1;

    private static final int NO_SUCH_INDEX = -15;
    private static final int NO_SUCH_METHOD = -10;
    private static final int FAULT_BASE = -5000;

    private static final int TAPE_LIMIT = 4000;
    private static final int FED_BYTES = 20;
    private static final int FIRST_TYPES = 7;
    private static final int TYPE_LIMIT = 19;
    private static final int FIELD_LIMIT = 8;
    private static final int STATIC_LIMIT = 16;
    private static final int ROUTINE_LIMIT = 24;
    private static final int KIND_LIMIT = 6;
    private static final int TRY_LIMIT = 8;
    private static final int CODE_LIMIT = 100;
    private static final int LOCALS = 16;
    private static final int STACK_LIMIT = 16;
    private static final int ARGUMENTS = 7;
    private static final int CHANNELS = 16;
    private static final int ALL_MARKS = 65535;

    private static final int STEP_LIMIT = 20000;
    private static final int FRAME_LIMIT = 24;
    private static final int CELL_LIMIT = 3000;
    private static final int EVENT_LIMIT = 500;

    /** The kinds of values; as bits, what a local may be; as numbers, what a method answers. */
    private static final int INT = 1;
    private static final int REF = 2;

    private static final int ANY = 0;
    private static final int FAULT = 1;
    private static final int NULL_FAULT = 2;
    private static final int BOUNDS_FAULT = 3;
    private static final int SIZE_FAULT = 4;
    private static final int DIVIDE_FAULT = 5;
    private static final int CAST_FAULT = 6;
    private static final int INT_ARRAY = -2;
    private static final int REF_ARRAY = -3;

    private static final int ENDED_BY_THROW = 3;
    private static final int ENDED_BY_STEPS = 4;
    private static final int ENDED_BY_FRAMES = 5;
    private static final int ENDED_BY_CELLS = 6;
    private static final int ENDED_BY_EVENTS = 7;

    private static final int FLOW_OF_INDEX = 1;
    private static final int FLOW_OF_READ_REF = 2;
    private static final int FLOW_OF_WRITTEN_REF = 4;

    private static final int TOLD_AGAIN = 1;
    private static final int NO_SUCH_NAME = 2;
    private static final int OTHER_KINDS = 3;
    private static final int BACKWARD_TRY = 4;
    private static final int BAD_CODE = 5;

    /** A word's number is its place among all of these; the groups of instructions are ranges. */
    private static final String MEMBER_WORDS = "class field static method virtual int ref none try";
    private static final String VALUE_WORDS = "push null load store inc dup pop swap";
    private static final String SUM_WORDS = "add sub mul div rem and or xor shl shr ushr neg";
    private static final String JUMP_WORDS =
        "goto ifeq ifne iflt ifge ifgt ifle cmpeq cmpne cmplt cmpge cmpgt cmple ifnull ifsome same other";
    private static final String FIELD_WORDS = "new get put gets puts";
    private static final String ARRAY_WORDS = "ints refs iget iput rget rput length";
    private static final String CALL_WORDS = "call virt ret throw";
    private static final String TYPE_WORDS = "is as";
    private static final String MARK_WORDS = "source sink clean mark";
    private static final String FIRST_NAMES =
        "Any Fault NullFault BoundsFault SizeFault DivideFault CastFault";

    private static final int CLASS = 0;
    private static final int FIELD = 1;
    private static final int STATIC = 2;
    private static final int METHOD = 3;
    private static final int VIRTUAL = 4;
    private static final int INT_WORD = 5;
    private static final int REF_WORD = 6;
    private static final int NONE_WORD = 7;
    private static final int TRY = 8;

    private static final int PUSH = 9;
    private static final int NULL = 10;
    private static final int LOAD = 11;
    private static final int STORE = 12;
    private static final int INC = 13;
    private static final int DUP = 14;
    private static final int POP = 15;
    private static final int SWAP = 16;

    private static final int ADD = 17;
    private static final int SUB = 18;
    private static final int MUL = 19;
    private static final int DIV = 20;
    private static final int REM = 21;
    private static final int AND = 22;
    private static final int OR = 23;
    private static final int XOR = 24;
    private static final int SHL = 25;
    private static final int SHR = 26;
    private static final int USHR = 27;
    private static final int NEG = 28;

    private static final int GOTO = 29;
    private static final int IFEQ = 30;
    private static final int IFNE = 31;
    private static final int IFLT = 32;
    private static final int IFGE = 33;
    private static final int IFGT = 34;
    private static final int IFLE = 35;
    private static final int CMPEQ = 36;
    private static final int CMPNE = 37;
    private static final int CMPLT = 38;
    private static final int CMPGE = 39;
    private static final int CMPGT = 40;
    private static final int CMPLE = 41;
    private static final int IFNULL = 42;
    private static final int IFSOME = 43;
    private static final int SAME = 44;
    private static final int OTHER = 45;

    private static final int NEW = 46;
    private static final int GET = 47;
    private static final int PUT = 48;
    private static final int GETS = 49;
    private static final int PUTS = 50;

    private static final int INTS = 51;
    private static final int REFS = 52;
    private static final int IGET = 53;
    private static final int IPUT = 54;
    private static final int RGET = 55;
    private static final int RPUT = 56;
    private static final int LENGTH = 57;

    private static final int CALL = 58;
    private static final int VIRT = 59;
    private static final int RET = 60;
    private static final int THROW = 61;

    private static final int IS = 62;
    private static final int AS = 63;

    private static final int SOURCE = 64;
    private static final int SINK = 65;
    private static final int CLEAN = 66;
    private static final int MARK = 67;

    private static final int WORD_COUNT = 68;
    private static final int FIXED_NAMES = 75;

    /** Enough for any tape: a name has one byte at least, and one that is no part of it behind it. */
    private static final int NAME_ROOM = FIXED_NAMES + TAPE_LIMIT / 2 + 1;
    /** Enough for any tape: the shortest instruction, "or;", has three bytes. */
    private static final int CODE_ROOM = TAPE_LIMIT / 3 + 1;
    private static final int FIELD_ROOM = (TYPE_LIMIT - FIRST_TYPES) * FIELD_LIMIT;
    private static final int TRY_ROOM = ROUTINE_LIMIT * TRY_LIMIT;

    private final char[] tape = new char[TAPE_LIMIT];
    private final int[] argumentValues = new int[ARGUMENTS];
    private final int[] argumentMarks = new int[ARGUMENTS];
    private final Scanner scanner = new Scanner();
    private final Parser parser = new Parser();
    private final Binder binder = new Binder();
    private final Checker checker = new Checker();
    private final Machine machine = new Machine();
    private Program program = new Program();
    private Program draft = new Program();
    private int tapeLength = 0;
    private int flowBits = 0;
    private int faultPlace = NONE;

    public TaintHouse() {
    }

    public boolean feed(int a, int b, int c, int d, int e) {
        if (tapeLength + FED_BYTES > TAPE_LIMIT) {
            return false;
        }
        appendNumber(a);
        appendNumber(b);
        appendNumber(c);
        appendNumber(d);
        appendNumber(e);
        return true;
    }

    public boolean end(int n) {
        if (n < 0 || n > tapeLength) {
            return false;
        }
        tapeLength = n;
        return true;
    }

    public int text() {
        scanner.forgetNames();
        scanner.scan(tape, tapeLength);
        tapeLength = 0;
        faultPlace = NONE;
        binder.begin(scanner, draft);
        int wrong = parser.readText(scanner, binder, draft);
        if (wrong != NONE) {
            return -1 - wrong;
        }
        int kind = findFault();
        if (kind != 0) {
            return FAULT_BASE - kind;
        }
        adoptDraft();
        return program.routineCount;
    }

    public int place() {
        return faultPlace;
    }

    public int flows(int v) {
        int before = flowBits;
        flowBits = v & (FLOW_OF_INDEX | FLOW_OF_READ_REF | FLOW_OF_WRITTEN_REF);
        return before;
    }

    public int policy(int k, int v) {
        if (k < 0 || k >= CHANNELS) {
            return NO_SUCH_INDEX;
        }
        int before = machine.policies[k];
        machine.policies[k] = v & ALL_MARKS;
        return before;
    }

    public int input(int k, int v) {
        if (k < 0 || k >= CHANNELS) {
            return NONE;
        }
        int before = machine.inputs[k];
        machine.inputs[k] = v;
        return before;
    }

    public int argument(int i, int v, int m) {
        if (i < 0 || i >= ARGUMENTS) {
            return NO_SUCH_INDEX;
        }
        argumentValues[i] = v;
        argumentMarks[i] = m & ALL_MARKS;
        return 1;
    }

    public int run(int method) {
        if (method < 0 || method >= program.routineCount) {
            return NO_SUCH_METHOD;
        }
        machine.begin(program, flowBits);
        machine.enterFirst(program.routines[method], argumentValues, argumentMarks);
        machine.goOn();
        return machine.ending;
    }

    public int result(int what) {
        if (!machine.hasRun()) {
            return NONE;
        }
        switch (what) {
            case 0: return machine.ending;
            case 1: return machine.endValue;
            case 2: return machine.endMarks;
            case 3: return machine.done;
            case 4: return machine.events.size;
            case 5: return machine.events.alarms;
            case 6: return machine.heap.size;
            case 7: return machine.heap.cells;
            default: return NONE;
        }
    }

    public int event(int i, int what) {
        Events events = machine.events;
        if (!machine.hasRun() || i < 0 || i >= events.size) {
            return NONE;
        }
        switch (what) {
            case 0: return events.channel[i];
            case 1: return events.value[i];
            case 2: return events.marks[i];
            case 3: return events.alarm[i];
            default: return NONE;
        }
    }

    public int object(int i, int what) {
        if (!hasObject(i)) {
            return NONE;
        }
        Heap heap = machine.heap;
        switch (what) {
            case 0: return heap.sortOf(i);
            case 1: return heap.slotsOf(i);
            case 2: return heap.lengthMarksOf(i);
            default: return NONE;
        }
    }

    public int slot(int i, int k, int what) {
        Heap heap = machine.heap;
        if (!hasObject(i) || k < 0 || k >= heap.slotsOf(i)) {
            return NONE;
        }
        int cell = heap.cellOf(i, k);
        switch (what) {
            case 0: return heap.value[cell];
            case 1: return heap.marks[cell];
            default: return NONE;
        }
    }

    public int stat(int k, int what) {
        if (!machine.hasRun() || k < 0 || k >= program.staticCount) {
            return NONE;
        }
        switch (what) {
            case 0: return machine.heap.staticValue[k];
            case 1: return machine.heap.staticMarks[k];
            default: return NONE;
        }
    }

    public int type(int c, int what) {
        if (c < 0 || c >= program.typeCount) {
            return NONE;
        }
        Type type = program.types[c];
        switch (what) {
            case 0: return type.parent;
            case 1: return type.fieldsInAll();
            case 2: return type.routineTo - type.routineFrom;
            default: return NONE;
        }
    }

    public int method(int m, int what) {
        if (m < 0 || m >= program.routineCount) {
            return NONE;
        }
        Routine routine = program.routines[m];
        switch (what) {
            case 0: return routine.owner;
            case 1: return routine.kindCount;
            case 2: return routine.answer;
            case 3: return routine.virtual ? 1 : 0;
            case 4: return routine.codeTo - routine.codeFrom;
            case 5: return routine.deepest;
            default: return NONE;
        }
    }

    public int count(int what) {
        switch (what) {
            case 0: return program.typeCount;
            case 1: return program.routineCount;
            case 2: return program.staticCount;
            case 3: return flowBits;
            case 4: return tapeLength;
            default: return NONE;
        }
    }

    private void appendNumber(int number) {
        for (int shift = 24; shift >= 0; shift -= 8) {
            tape[tapeLength] = (char) ((number >>> shift) & 255);
            tapeLength++;
        }
    }

    /** The kind of the draft's first fault, 0 if it has none. */
    private int findFault() {
        binder.bindNames();
        int kind = binder.faultKind;
        int token = binder.faultToken;
        for (int m = 0; m < draft.routineCount && token == NONE; m++) {
            kind = BAD_CODE;
            token = checker.examine(draft, draft.routines[m]);
        }
        if (token == NONE) {
            return 0;
        }
        faultPlace = scanner.start[token];
        return kind;
    }

    private void adoptDraft() {
        Program former = program;
        program = draft;
        draft = former;
        machine.forget();
        Arrays.fill(argumentValues, 0);
        Arrays.fill(argumentMarks, 0);
    }

    private boolean hasObject(int i) {
        return machine.hasRun() && i >= 0 && i < machine.heap.size;
    }

    /** The tape's tokens; a name has the same number wherever it stands, a word that of its row. */
    private static final class Scanner {
        static final int NUMBER = -1;
        static final int LONG_NAME = -2;
        static final int STRAY_BYTE = -3;
        static final int FINISH = -4;
        static final int NAME_SIGNS = 12;

        private static final int FRONT_SIGNS = 8;
        private static final int CHAINS = 256;

        /** What a token is: a name's number, one of the above, or a sign's byte with - ahead. */
        final int[] code = new int[TAPE_LIMIT + 1];
        final int[] start = new int[TAPE_LIMIT + 1];
        int size = 0;

        private char[] bytes;
        private int length = 0;
        private final long[] nameFront = new long[NAME_ROOM];
        private final int[] nameBack = new int[NAME_ROOM];
        private final int[] nextInChain = new int[NAME_ROOM];
        private final int[] chainHead = new int[CHAINS];
        private int nameCount = 0;

        Scanner() {
            Arrays.fill(chainHead, NONE);
            scan(MEMBER_WORDS.toCharArray(), MEMBER_WORDS.length());
            scan(VALUE_WORDS.toCharArray(), VALUE_WORDS.length());
            scan(SUM_WORDS.toCharArray(), SUM_WORDS.length());
            scan(JUMP_WORDS.toCharArray(), JUMP_WORDS.length());
            scan(FIELD_WORDS.toCharArray(), FIELD_WORDS.length());
            scan(ARRAY_WORDS.toCharArray(), ARRAY_WORDS.length());
            scan(CALL_WORDS.toCharArray(), CALL_WORDS.length());
            scan(TYPE_WORDS.toCharArray(), TYPE_WORDS.length());
            scan(MARK_WORDS.toCharArray(), MARK_WORDS.length());
            scan(FIRST_NAMES.toCharArray(), FIRST_NAMES.length());
        }

        /** All names but the words and those of the first classes. */
        void forgetNames() {
            Arrays.fill(chainHead, NONE);
            nameCount = FIXED_NAMES;
            for (int name = 0; name < FIXED_NAMES; name++) {
                link(name, chainOf(nameFront[name], nameBack[name]));
            }
        }

        void scan(char[] from, int count) {
            bytes = from;
            length = count;
            size = 0;
            int at = skipBlanks(0);
            // Each round takes a byte at least.
            for (int round = 0; at < length && round < TAPE_LIMIT; round++) {
                at = skipBlanks(scanToken(at));
            }
            addToken(FINISH, length);
        }

        private int skipBlanks(int from) {
            boolean comment = false;
            for (int at = from; at < length; at++) {
                char c = bytes[at];
                if (c == '#') {
                    comment = true;
                } else if (c == 10) {
                    comment = false;
                } else if (!comment && c != 9 && c != 13 && c != 32) {
                    return at;
                }
            }
            return length;
        }

        /** Answers where the token ends; behind a byte of no token nothing is looked at any more. */
        private int scanToken(int at) {
            char c = bytes[at];
            if (isLetter(c)) {
                return scanName(at);
            }
            if (isDigit(c)) {
                addToken(NUMBER, at);
                return endOfDigits(at);
            }
            if (isSign(c)) {
                addToken(-c, at);
                return at + 1;
            }
            addToken(STRAY_BYTE, at);
            return length;
        }

        private int scanName(int from) {
            long front = 0;
            int back = 0;
            int at = from;
            while (at < length && (isLetter(bytes[at]) || isDigit(bytes[at]))) {
                if (at < from + FRONT_SIGNS) {
                    front = front << 8 | bytes[at];
                } else if (at < from + NAME_SIGNS) {
                    back = back << 8 | bytes[at];
                }
                at++;
            }
            addToken(at > from + NAME_SIGNS ? LONG_NAME : numberOfName(front, back), from);
            return at;
        }

        private int endOfDigits(int from) {
            int at = from;
            while (at < length && isDigit(bytes[at])) {
                at++;
            }
            return at;
        }

        private void addToken(int what, int at) {
            code[size] = what;
            start[size] = at;
            size++;
        }

        /** A chain ends, since each name in it is older than the one ahead of it. */
        private int numberOfName(long front, int back) {
            int chain = chainOf(front, back);
            for (int name = chainHead[chain]; name != NONE; name = nextInChain[name]) {
                if (nameFront[name] == front && nameBack[name] == back) {
                    return name;
                }
            }
            nameFront[nameCount] = front;
            nameBack[nameCount] = back;
            link(nameCount, chain);
            nameCount++;
            return nameCount - 1;
        }

        private void link(int name, int chain) {
            nextInChain[name] = chainHead[chain];
            chainHead[chain] = name;
        }

        private static int chainOf(long front, int back) {
            int mixed = (int) (front ^ (front >>> 29)) * 31 + back;
            return (mixed ^ (mixed >>> 8) ^ (mixed >>> 16)) & (CHAINS - 1);
        }

        boolean hasNeedlessZero(int token) {
            int at = start[token];
            return bytes[at] == '0' && at + 1 < length && isDigit(bytes[at + 1]);
        }

        /** The number, or, above the limit, one above it. */
        long numberUpTo(int token, long limit) {
            long number = 0;
            for (int at = start[token]; at < length && isDigit(bytes[at]) && number <= limit; at++) {
                number = number * 10 + (bytes[at] - '0');
            }
            return number;
        }

        private static boolean isLetter(char c) {
            return c >= 'a' && c <= 'z' || c >= 'A' && c <= 'Z';
        }

        private static boolean isDigit(char c) {
            return c >= '0' && c <= '9';
        }

        private static boolean isSign(char c) {
            return c == '{' || c == '}' || c == '(' || c == ')'
                || c == ';' || c == ':' || c == ',' || c == '-';
        }
    }

    /** A class; its members stand in the program's rows, from .. up to the one ahead of to. */
    private static final class Type {
        int name = NONE;
        int parent = NONE;
        int fieldsAbove = 0;
        int fieldFrom = 0;
        int fieldTo = 0;
        int staticFrom = 0;
        int staticTo = 0;
        int routineFrom = 0;
        int routineTo = 0;

        int fieldsInAll() {
            return fieldsAbove + fieldTo - fieldFrom;
        }
    }

    /** A method or a virtual; its code and tries stand in the program's code. */
    private static final class Routine {
        int name = NONE;
        int nameToken = NONE;
        int endToken = NONE;
        int owner = NONE;
        boolean virtual = false;
        int kindCount = 0;
        /** Bit i: whether kind i is a ref. */
        int refKinds = 0;
        int answer = 0;
        int codeFrom = 0;
        int codeTo = 0;
        int tryFrom = 0;
        int tryTo = 0;
        int deepest = 0;

        int kindAt(int i) {
            return (refKinds >> i & 1) != 0 ? REF : INT;
        }

        /** How many locals a call fills: a virtual's ref stands ahead of its kinds. */
        int localsTaken() {
            return virtual ? kindCount + 1 : kindCount;
        }

        boolean takesRefAt(int local) {
            if (virtual) {
                return local == 0 || kindAt(local - 1) == REF;
            }
            return kindAt(local) == REF;
        }

        boolean hasKindsOf(Routine that) {
            return kindCount == that.kindCount && refKinds == that.refKinds && answer == that.answer;
        }
    }

    /** The instructions and tries of all methods; labels are places in the row of instructions. */
    private static final class Code {
        final int[] word = new int[CODE_ROOM];
        final int[] first = new int[CODE_ROOM];
        final int[] second = new int[CODE_ROOM];
        final int[] token = new int[CODE_ROOM];
        int size = 0;
        final int[] tryStart = new int[TRY_ROOM];
        final int[] tryStop = new int[TRY_ROOM];
        final int[] tryHandler = new int[TRY_ROOM];
        final int[] tryType = new int[TRY_ROOM];
        final int[] tryToken = new int[TRY_ROOM];
        int tries = 0;

        boolean liesIn(int at, int guard) {
            return at >= tryStart[guard] && at < tryStop[guard];
        }

        static boolean isJump(int word) {
            return word >= GOTO && word <= OTHER;
        }
    }

    /** Classes, members and code of one text. */
    private static final class Program {
        final Type[] types = new Type[TYPE_LIMIT];
        int typeCount = 0;
        final Routine[] routines = new Routine[ROUTINE_LIMIT];
        int routineCount = 0;
        final int[] fieldName = new int[FIELD_ROOM];
        final int[] fieldKind = new int[FIELD_ROOM];
        /** Where the field stands in an object. */
        final int[] fieldSlot = new int[FIELD_ROOM];
        int fieldCount = 0;
        final int[] staticName = new int[STATIC_LIMIT];
        final int[] staticKind = new int[STATIC_LIMIT];
        int staticCount = 0;
        final Code code = new Code();

        Program() {
            for (int i = 0; i < TYPE_LIMIT; i++) {
                types[i] = new Type();
            }
            for (int i = 0; i < ROUTINE_LIMIT; i++) {
                routines[i] = new Routine();
            }
            startAnew();
        }

        void startAnew() {
            typeCount = 0;
            routineCount = 0;
            fieldCount = 0;
            staticCount = 0;
            code.size = 0;
            code.tries = 0;
            for (int i = 0; i < FIRST_TYPES; i++) {
                openType(WORD_COUNT + i, i == ANY ? NONE : i == FAULT ? ANY : FAULT);
            }
        }

        void openType(int name, int parent) {
            Type type = types[typeCount];
            type.name = name;
            type.parent = parent;
            type.fieldsAbove = parent == NONE ? 0 : types[parent].fieldsInAll();
            type.fieldFrom = fieldCount;
            type.fieldTo = fieldCount;
            type.staticFrom = staticCount;
            type.staticTo = staticCount;
            type.routineFrom = routineCount;
            type.routineTo = routineCount;
            typeCount++;
        }

        Type lastType() {
            return types[typeCount - 1];
        }

        void addField(int name, int kind) {
            Type type = lastType();
            fieldName[fieldCount] = name;
            fieldKind[fieldCount] = kind;
            fieldSlot[fieldCount] = type.fieldsInAll();
            fieldCount++;
            type.fieldTo = fieldCount;
        }

        void addStatic(int name, int kind) {
            staticName[staticCount] = name;
            staticKind[staticCount] = kind;
            staticCount++;
            lastType().staticTo = staticCount;
        }

        void openRoutine(Routine routine) {
            routine.owner = typeCount - 1;
            routine.codeFrom = code.size;
            routine.tryFrom = code.tries;
            routineCount++;
            lastType().routineTo = routineCount;
        }

        /** The first class of this name; of members below, the nearest one, from a class upwards. */
        int findType(int name) {
            for (int i = 0; i < typeCount; i++) {
                if (types[i].name == name) {
                    return i;
                }
            }
            return NONE;
        }

        int findField(int from, int name) {
            for (int t = from; t != NONE; t = types[t].parent) {
                int field = indexOfName(fieldName, name, types[t].fieldFrom, types[t].fieldTo);
                if (field != NONE) {
                    return field;
                }
            }
            return NONE;
        }

        int findStatic(int from, int name) {
            for (int t = from; t != NONE; t = types[t].parent) {
                int found = indexOfName(staticName, name, types[t].staticFrom, types[t].staticTo);
                if (found != NONE) {
                    return found;
                }
            }
            return NONE;
        }

        int findRoutine(int from, int name, boolean virtual) {
            for (int t = from; t != NONE; t = types[t].parent) {
                for (int i = types[t].routineFrom; i < types[t].routineTo; i++) {
                    if (routines[i].name == name && routines[i].virtual == virtual) {
                        return i;
                    }
                }
            }
            return NONE;
        }

        boolean hasMember(Type type, int name) {
            for (int i = type.routineFrom; i < type.routineTo; i++) {
                if (routines[i].name == name) {
                    return true;
                }
            }
            return indexOfName(fieldName, name, type.fieldFrom, type.fieldTo) != NONE
                || indexOfName(staticName, name, type.staticFrom, type.staticTo) != NONE;
        }

        private static int indexOfName(int[] names, int name, int from, int to) {
            for (int i = from; i < to; i++) {
                if (names[i] == name) {
                    return i;
                }
            }
            return NONE;
        }

        boolean isOfType(int type, int wanted) {
            for (int t = type; t != NONE; t = types[t].parent) {
                if (t == wanted) {
                    return true;
                }
            }
            return false;
        }
    }

    /** Reads a text by its grammar into a program; a text of the right form may still have faults. */
    private static final class Parser {
        private static final int OUTSIDE = 0;
        private static final int IN_TYPE = 1;
        private static final int IN_ROUTINE = 2;
        private static final long INT_LIMIT = 2147483647L;
        private static final long INC_LIMIT = 32767L;
        private static final long NO_MINUS = -1L;

        private Scanner scanner;
        private Binder binder;
        private Program program;
        private Routine routine;
        private int token = 0;
        private int where = OUTSIDE;
        private int wrong = NONE;
        /** The kind or number that was taken last. */
        private int taken = 0;

        /** The place where the text is wrong, or NONE. */
        int readText(Scanner from, Binder by, Program into) {
            scanner = from;
            binder = by;
            program = into;
            program.startAnew();
            token = 0;
            where = OUTSIDE;
            wrong = NONE;
            boolean more = true;
            // Each round but the last one takes a token.
            for (int round = 0; more && round <= scanner.size; round++) {
                switch (where) {
                    case OUTSIDE:
                        more = readTypeHead();
                        break;
                    case IN_TYPE:
                        more = readMember();
                        break;
                    default:
                        more = readItem();
                        break;
                }
            }
            return wrong;
        }

        private boolean readTypeHead() {
            if (next() == Scanner.FINISH && program.typeCount > FIRST_TYPES) {
                return false;
            }
            if (next() != CLASS || program.typeCount == TYPE_LIMIT) {
                return refuse();
            }
            token++;
            if (!takeName()) {
                return false;
            }
            int nameToken = token - 1;
            int parentToken = NONE;
            if (next() == -':') {
                token++;
                if (!takeName()) {
                    return false;
                }
                parentToken = token - 1;
            }
            if (!takeSign('{')) {
                return false;
            }
            binder.addType(nameToken, parentToken);
            where = IN_TYPE;
            return true;
        }

        private boolean readMember() {
            switch (next()) {
                case FIELD: return readField();
                case STATIC: return readStatic();
                case METHOD:
                case VIRTUAL: return readRoutineHead();
                default:
                    where = OUTSIDE;
                    return takeSign('}');
            }
        }

        private boolean readField() {
            Type type = program.lastType();
            if (type.fieldTo - type.fieldFrom == FIELD_LIMIT) {
                return refuse();
            }
            token++;
            int nameToken = token;
            if (!takeName() || !takeKind() || !takeSign(';')) {
                return false;
            }
            program.addField(binder.memberName(nameToken), taken);
            return true;
        }

        private boolean readStatic() {
            if (program.staticCount == STATIC_LIMIT) {
                return refuse();
            }
            token++;
            int nameToken = token;
            if (!takeName() || !takeKind() || !takeSign(';')) {
                return false;
            }
            program.addStatic(binder.memberName(nameToken), taken);
            return true;
        }

        private boolean readRoutineHead() {
            if (program.routineCount == ROUTINE_LIMIT) {
                return refuse();
            }
            routine = program.routines[program.routineCount];
            routine.virtual = next() == VIRTUAL;
            token++;
            routine.nameToken = token;
            if (!takeName() || !takeSign('(') || !readKinds() || !takeAnswer() || !takeSign('{')) {
                return false;
            }
            routine.name = binder.memberName(routine.nameToken);
            program.openRoutine(routine);
            where = IN_ROUTINE;
            return true;
        }

        private boolean readKinds() {
            routine.kindCount = 0;
            routine.refKinds = 0;
            boolean more = next() != -')';
            for (int i = 0; more && i < KIND_LIMIT; i++) {
                if (!takeKind()) {
                    return false;
                }
                routine.kindCount = i + 1;
                if (taken == REF) {
                    routine.refKinds |= 1 << i;
                }
                more = next() == -',' && i + 1 < KIND_LIMIT;
                if (more) {
                    token++;
                }
            }
            return takeSign(')');
        }

        private boolean takeAnswer() {
            if (next() == NONE_WORD) {
                token++;
                routine.answer = 0;
                return true;
            }
            if (!takeKind()) {
                return false;
            }
            routine.answer = taken;
            return true;
        }

        private boolean readItem() {
            int word = next();
            if (word == -'}') {
                closeRoutine();
                binder.bindLabels(routine);
                return true;
            }
            if (word == TRY) {
                return readTry();
            }
            if (word >= PUSH && word <= MARK) {
                return openInstruction(word) && readOperands(word) && closeInstruction();
            }
            int nameToken = token;
            if (!takeName() || !takeSign(':')) {
                return false;
            }
            binder.addLabel(nameToken);
            return true;
        }

        private void closeRoutine() {
            routine.endToken = token;
            routine.codeTo = program.code.size;
            routine.tryTo = program.code.tries;
            token++;
            where = IN_TYPE;
        }

        private boolean readTry() {
            Code code = program.code;
            if (code.tries - routine.tryFrom == TRY_LIMIT) {
                return refuse();
            }
            code.tryToken[code.tries] = token;
            token++;
            if (!takeName() || !takeName() || !takeName() || !takeName() || !takeSign(';')) {
                return false;
            }
            code.tries++;
            return true;
        }

        private boolean openInstruction(int word) {
            Code code = program.code;
            if (code.size - routine.codeFrom == CODE_LIMIT) {
                return refuse();
            }
            code.word[code.size] = word;
            code.token[code.size] = token;
            token++;
            return true;
        }

        private boolean closeInstruction() {
            program.code.size++;
            return takeSign(';');
        }

        /** Names stay where they are, in the tokens: the binder finds out what they mean. */
        private boolean readOperands(int word) {
            if (Code.isJump(word)) {
                return takeName();
            }
            switch (word) {
                case NEW: case IS: case AS:
                    return takeName();
                case GET: case PUT: case GETS: case PUTS: case CALL: case VIRT:
                    return takeName() && takeName();
                case LOAD: case STORE:
                    return takeNumber(LOCALS - 1, NO_MINUS) && keepFirst();
                case SOURCE: case SINK:
                    return takeNumber(CHANNELS - 1, NO_MINUS) && keepFirst();
                case CLEAN: case MARK:
                    return takeNumber(ALL_MARKS, NO_MINUS) && keepFirst();
                case PUSH:
                    return takeNumber(INT_LIMIT, INT_LIMIT + 1) && keepFirst();
                case INC:
                    return takeNumber(LOCALS - 1, NO_MINUS) && keepFirst()
                        && takeNumber(INC_LIMIT, INC_LIMIT) && keepSecond();
                default:
                    return true;
            }
        }

        private boolean keepFirst() {
            program.code.first[program.code.size] = taken;
            return true;
        }

        private boolean keepSecond() {
            program.code.second[program.code.size] = taken;
            return true;
        }

        /** A number up to a limit, or, with - ahead, up to the one for this. */
        private boolean takeNumber(long limit, long limitWithMinus) {
            boolean minus = limitWithMinus != NO_MINUS && next() == -'-';
            if (minus) {
                token++;
            }
            if (next() != Scanner.NUMBER) {
                return refuse();
            }
            if (scanner.hasNeedlessZero(token)) {
                wrong = scanner.start[token] + 1;
                return false;
            }
            long most = minus ? limitWithMinus : limit;
            long number = scanner.numberUpTo(token, most);
            if (number > most) {
                return refuse();
            }
            taken = (int) (minus ? -number : number);
            token++;
            return true;
        }

        private boolean takeName() {
            if (next() == Scanner.LONG_NAME) {
                wrong = scanner.start[token] + Scanner.NAME_SIGNS;
                return false;
            }
            if (next() < WORD_COUNT) {
                return refuse();
            }
            token++;
            return true;
        }

        private boolean takeKind() {
            if (next() != INT_WORD && next() != REF_WORD) {
                return refuse();
            }
            taken = next() == INT_WORD ? INT : REF;
            token++;
            return true;
        }

        private boolean takeSign(char sign) {
            if (next() != -sign) {
                return refuse();
            }
            token++;
            return true;
        }

        /** The last token, FINISH, is never taken, so that there always is a next one. */
        private int next() {
            return scanner.code[token];
        }

        private boolean refuse() {
            wrong = scanner.start[token];
            return false;
        }
    }

    /** Finds out what names mean, and the first fault among them; tokens stand in order of place. */
    private static final class Binder {
        private final int[] labelOwner = new int[NAME_ROOM];
        private final int[] labelTarget = new int[NAME_ROOM];
        private Scanner scanner;
        private Program program;
        int faultToken = NONE;
        int faultKind = 0;

        void begin(Scanner from, Program into) {
            scanner = from;
            program = into;
            faultToken = NONE;
            faultKind = 0;
            Arrays.fill(labelOwner, NONE);
        }

        private void note(int token, int kind) {
            if (faultToken == NONE || token < faultToken || token == faultToken && kind < faultKind) {
                faultToken = token;
                faultKind = kind;
            }
        }

        void addType(int nameToken, int parentToken) {
            int name = scanner.code[nameToken];
            if (program.findType(name) != NONE) {
                note(nameToken, TOLD_AGAIN);
            }
            int parent = ANY;
            if (parentToken != NONE) {
                parent = typeAt(parentToken);
            }
            program.openType(name, parent == NONE ? ANY : parent);
        }

        int memberName(int token) {
            int name = scanner.code[token];
            if (program.hasMember(program.lastType(), name)) {
                note(token, TOLD_AGAIN);
            }
            return name;
        }

        void addLabel(int token) {
            int name = scanner.code[token];
            int routine = program.routineCount - 1;
            if (labelOwner[name] == routine) {
                note(token, TOLD_AGAIN);
                return;
            }
            labelOwner[name] = routine;
            labelTarget[name] = program.code.size;
        }

        /** Done as soon as a method is closed, since the next one has labels of its own. */
        void bindLabels(Routine routine) {
            Code code = program.code;
            for (int i = routine.codeFrom; i < routine.codeTo; i++) {
                if (Code.isJump(code.word[i])) {
                    code.first[i] = labelAt(code.token[i] + 1);
                }
            }
            for (int t = routine.tryFrom; t < routine.tryTo; t++) {
                bindTryLabels(t);
            }
        }

        private void bindTryLabels(int t) {
            Code code = program.code;
            int token = code.tryToken[t];
            int start = labelAt(token + 1);
            int stop = labelAt(token + 2);
            int handler = labelAt(token + 3);
            if (start != NONE && stop != NONE && handler != NONE && stop <= start) {
                note(token + 1, BACKWARD_TRY);
            }
            code.tryStart[t] = start;
            code.tryStop[t] = stop;
            code.tryHandler[t] = handler;
        }

        private int labelAt(int token) {
            int name = scanner.code[token];
            if (labelOwner[name] == program.routineCount - 1) {
                return labelTarget[name];
            }
            note(token, NO_SUCH_NAME);
            return NONE;
        }

        /** Done behind the whole text, since a class may be named ahead of where it stands. */
        void bindNames() {
            for (int r = 0; r < program.routineCount; r++) {
                Routine routine = program.routines[r];
                compareWithAbove(routine);
                for (int i = routine.codeFrom; i < routine.codeTo; i++) {
                    bindInstruction(i);
                }
                for (int t = routine.tryFrom; t < routine.tryTo; t++) {
                    program.code.tryType[t] = typeAt(program.code.tryToken[t] + 4);
                }
            }
        }

        private void compareWithAbove(Routine routine) {
            if (!routine.virtual) {
                return;
            }
            int parent = program.types[routine.owner].parent;
            int above = program.findRoutine(parent, routine.name, true);
            if (above != NONE && !routine.hasKindsOf(program.routines[above])) {
                note(routine.nameToken, OTHER_KINDS);
            }
        }

        private void bindInstruction(int i) {
            Code code = program.code;
            int token = code.token[i];
            switch (code.word[i]) {
                case NEW: case IS: case AS:
                    code.first[i] = typeAt(token + 1);
                    break;
                case GET: case PUT: case GETS: case PUTS: case CALL: case VIRT:
                    code.first[i] = typeAt(token + 1);
                    if (code.first[i] != NONE) {
                        code.second[i] = memberAt(token + 2, code.word[i], code.first[i]);
                    }
                    break;
                default:
                    break;
            }
        }

        private int typeAt(int token) {
            int type = program.findType(scanner.code[token]);
            if (type == NONE) {
                note(token, NO_SUCH_NAME);
            }
            return type;
        }

        private int memberAt(int token, int word, int type) {
            int name = scanner.code[token];
            int member;
            switch (word) {
                case GET: case PUT:
                    member = program.findField(type, name);
                    break;
                case GETS: case PUTS:
                    member = program.findStatic(type, name);
                    break;
                default:
                    member = program.findRoutine(type, name, word == VIRT);
                    break;
            }
            if (member == NONE) {
                note(token, NO_SUCH_NAME);
            }
            return member;
        }
    }

    /** Looks at the code of each method: what stacks and locals its instructions are come to with. */
    private static final class Checker {
        /** Each of 100 instructions is new once, and once more for each kind that a local gains. */
        private static final int ROUNDS = 100000;

        private final boolean[] reached = new boolean[CODE_LIMIT];
        private final boolean[] fresh = new boolean[CODE_LIMIT];
        private final int[] depthAt = new int[CODE_LIMIT];
        private final int[] refsAt = new int[CODE_LIMIT];
        private final int[] intLocalsAt = new int[CODE_LIMIT];
        private final int[] refLocalsAt = new int[CODE_LIMIT];
        private final int[] unsetLocalsAt = new int[CODE_LIMIT];
        private Program program;
        private Code code;
        private Routine routine;
        private int faultToken = NONE;

        /** The stack and locals at hand; of refs and locals bit i is that of place i. */
        private int depth = 0;
        private int refs = 0;
        private int intLocals = 0;
        private int refLocals = 0;
        private int unsetLocals = 0;
        private boolean sound = true;

        /** The token of the first fault that is found, or NONE. */
        int examine(Program examined, Routine examinedRoutine) {
            program = examined;
            code = examined.code;
            routine = examinedRoutine;
            faultToken = NONE;
            int size = routine.codeTo - routine.codeFrom;
            begin(size);
            int i = lowestFresh(size);
            for (int round = 0; i != NONE && faultToken == NONE && round < ROUNDS; round++) {
                fresh[i] = false;
                recall(i);
                apply(routine.codeFrom + i);
                goBehind(i);
                i = lowestFresh(size);
            }
            return faultToken;
        }

        private void begin(int size) {
            for (int i = 0; i < size; i++) {
                reached[i] = false;
                fresh[i] = false;
            }
            routine.deepest = 0;
            depth = 0;
            refs = 0;
            setFirstLocals();
            comeTo(routine.codeFrom);
        }

        private void setFirstLocals() {
            intLocals = 0;
            refLocals = 0;
            int taken = routine.localsTaken();
            for (int i = 0; i < taken; i++) {
                if (routine.takesRefAt(i)) {
                    refLocals |= 1 << i;
                } else {
                    intLocals |= 1 << i;
                }
            }
            unsetLocals = (1 << LOCALS) - (1 << taken);
        }

        private int lowestFresh(int size) {
            for (int i = 0; i < size; i++) {
                if (fresh[i]) {
                    return i;
                }
            }
            return NONE;
        }

        /** To all that is behind instruction i, with the stack and locals at hand. */
        private void goBehind(int i) {
            int at = routine.codeFrom + i;
            int word = code.word[at];
            if (!sound || depth > STACK_LIMIT) {
                faultToken = code.token[at];
                return;
            }
            if (word != GOTO && word != RET && word != THROW) {
                comeTo(at + 1);
            }
            if (Code.isJump(word)) {
                comeTo(code.first[at]);
            }
            for (int t = routine.tryFrom; t < routine.tryTo; t++) {
                if (code.liesIn(at, t)) {
                    recall(i);
                    depth = 1;
                    refs = 1;
                    comeTo(code.tryHandler[t]);
                }
            }
        }

        private void recall(int i) {
            depth = depthAt[i];
            refs = refsAt[i];
            intLocals = intLocalsAt[i];
            refLocals = refLocalsAt[i];
            unsetLocals = unsetLocalsAt[i];
        }

        /** Of several faults the first one counts. */
        private void comeTo(int at) {
            if (faultToken != NONE) {
                return;
            }
            if (at >= routine.codeTo) {
                faultToken = routine.endToken;
                return;
            }
            int i = at - routine.codeFrom;
            if (!reached[i]) {
                keepFirst(i);
            } else if (depthAt[i] != depth || refsAt[i] != refs) {
                faultToken = code.token[at];
            } else {
                addLocals(i);
            }
        }

        private void keepFirst(int i) {
            reached[i] = true;
            fresh[i] = true;
            depthAt[i] = depth;
            refsAt[i] = refs;
            intLocalsAt[i] = intLocals;
            refLocalsAt[i] = refLocals;
            unsetLocalsAt[i] = unsetLocals;
            routine.deepest = Math.max(routine.deepest, depth);
        }

        private void addLocals(int i) {
            int newInts = intLocals & ~intLocalsAt[i];
            int newRefs = refLocals & ~refLocalsAt[i];
            int newUnset = unsetLocals & ~unsetLocalsAt[i];
            if ((newInts | newRefs | newUnset) != 0) {
                fresh[i] = true;
                intLocalsAt[i] |= intLocals;
                refLocalsAt[i] |= refLocals;
                unsetLocalsAt[i] |= unsetLocals;
            }
        }

        /** What instruction at takes and gives; sound tells whether it was there to be taken. */
        private void apply(int at) {
            int word = code.word[at];
            sound = true;
            if (word <= SWAP) {
                applyToValues(word, code.first[at]);
            } else if (word <= NEG) {
                applyToSum(word);
            } else if (word <= OTHER) {
                applyToJump(word);
            } else if (word <= PUTS) {
                applyToField(word, code.second[at]);
            } else if (word <= LENGTH) {
                applyToArray(word);
            } else if (word <= VIRT) {
                applyToCall(program.routines[code.second[at]]);
            } else {
                applyToRest(word);
            }
        }

        private void applyToValues(int word, int local) {
            switch (word) {
                case PUSH: give(INT); break;
                case NULL: give(REF); break;
                case LOAD: give(kindOfLocal(local)); break;
                case STORE: setLocal(local, takeAny()); break;
                case INC:
                    if (kindOfLocal(local) != INT) {
                        sound = false;
                    }
                    break;
                case DUP:
                    int kind = takeAny();
                    give(kind);
                    give(kind);
                    break;
                case POP: takeAny(); break;
                default:
                    int upper = takeAny();
                    int lower = takeAny();
                    give(upper);
                    give(lower);
                    break;
            }
        }

        private void applyToSum(int word) {
            take(INT);
            if (word != NEG) {
                take(INT);
            }
            give(INT);
        }

        private void applyToJump(int word) {
            if (word == GOTO) {
                return;
            }
            int kind = word >= IFNULL ? REF : INT;
            take(kind);
            if (word >= CMPEQ && word <= CMPLE || word >= SAME) {
                take(kind);
            }
        }

        private void applyToField(int word, int member) {
            switch (word) {
                case NEW: give(REF); break;
                case GET:
                    take(REF);
                    give(program.fieldKind[member]);
                    break;
                case PUT:
                    take(program.fieldKind[member]);
                    take(REF);
                    break;
                case GETS: give(program.staticKind[member]); break;
                default: take(program.staticKind[member]); break;
            }
        }

        private void applyToArray(int word) {
            if (word == INTS || word == REFS) {
                take(INT);
                give(REF);
                return;
            }
            if (word == LENGTH) {
                take(REF);
                give(INT);
                return;
            }
            int kind = word == IGET || word == IPUT ? INT : REF;
            boolean read = word == IGET || word == RGET;
            if (!read) {
                take(kind);
            }
            take(INT);
            take(REF);
            if (read) {
                give(kind);
            }
        }

        private void applyToCall(Routine called) {
            for (int i = called.kindCount - 1; i >= 0; i--) {
                take(called.kindAt(i));
            }
            if (called.virtual) {
                take(REF);
            }
            if (called.answer != 0) {
                give(called.answer);
            }
        }

        private void applyToRest(int word) {
            switch (word) {
                case RET:
                    if (routine.answer != 0) {
                        take(routine.answer);
                    }
                    break;
                case THROW: take(REF); break;
                case IS:
                    take(REF);
                    give(INT);
                    break;
                case AS:
                    take(REF);
                    give(REF);
                    break;
                case SOURCE: give(INT); break;
                case SINK: take(INT); break;
                default:
                    take(INT);
                    give(INT);
                    break;
            }
        }

        private int takeAny() {
            if (depth == 0) {
                sound = false;
                return INT;
            }
            depth--;
            int kind = (refs >> depth & 1) != 0 ? REF : INT;
            refs &= ~(1 << depth);
            return kind;
        }

        private void take(int kind) {
            if (takeAny() != kind) {
                sound = false;
            }
        }

        private void give(int kind) {
            if (kind == REF) {
                refs |= 1 << depth;
            }
            depth++;
        }

        private int kindOfLocal(int local) {
            boolean mayBeInt = (intLocals >> local & 1) != 0;
            boolean mayBeRef = (refLocals >> local & 1) != 0;
            boolean mayBeUnset = (unsetLocals >> local & 1) != 0;
            if (mayBeUnset || mayBeInt == mayBeRef) {
                sound = false;
            }
            return mayBeRef ? REF : INT;
        }

        private void setLocal(int local, int kind) {
            int bit = 1 << local;
            intLocals = kind == INT ? intLocals | bit : intLocals & ~bit;
            refLocals = kind == REF ? refLocals | bit : refLocals & ~bit;
            unsetLocals &= ~bit;
        }
    }

    /** Statics; objects and arrays: of each a cell that tells its sort, then one for each slot. */
    private static final class Heap {
        final int[] value = new int[CELL_LIMIT];
        final int[] marks = new int[CELL_LIMIT];
        /** The first cell of each, and behind the last one the first cell that is free. */
        private final int[] start = new int[CELL_LIMIT + 1];
        int size = 0;
        int cells = 0;
        final int[] staticValue = new int[STATIC_LIMIT];
        final int[] staticMarks = new int[STATIC_LIMIT];

        void startAnew(int[] staticKind) {
            size = 0;
            cells = 0;
            start[0] = 0;
            for (int i = 0; i < STATIC_LIMIT; i++) {
                staticValue[i] = staticKind[i] == REF ? NONE : 0;
                staticMarks[i] = 0;
            }
        }

        boolean hasRoom(int slots) {
            return slots < CELL_LIMIT - cells;
        }

        /** Called where there is room alone; a sort is a class, INT_ARRAY or REF_ARRAY. */
        int make(int sort, int slots, int lengthMarks) {
            value[cells] = sort;
            marks[cells] = lengthMarks;
            int end = cells + 1 + slots;
            for (int cell = cells + 1; cell < end; cell++) {
                value[cell] = sort == REF_ARRAY ? NONE : 0;
                marks[cell] = 0;
            }
            cells = end;
            size++;
            start[size] = end;
            return size - 1;
        }

        int sortOf(int i) {
            return value[start[i]];
        }

        int lengthMarksOf(int i) {
            return marks[start[i]];
        }

        int slotsOf(int i) {
            return start[i + 1] - start[i] - 1;
        }

        int cellOf(int i, int slot) {
            return start[i] + 1 + slot;
        }
    }

    /** What the sinks of a run have taken. */
    private static final class Events {
        final int[] channel = new int[EVENT_LIMIT];
        final int[] value = new int[EVENT_LIMIT];
        final int[] marks = new int[EVENT_LIMIT];
        final int[] alarm = new int[EVENT_LIMIT];
        int size = 0;
        int alarms = 0;

        void startAnew() {
            size = 0;
            alarms = 0;
        }

        void add(int k, int sunk, int sunkMarks, boolean alarming) {
            channel[size] = k;
            value[size] = sunk;
            marks[size] = sunkMarks;
            alarm[size] = alarming ? 1 : 0;
            size++;
            if (alarming) {
                alarms++;
            }
        }
    }

    /** Does instructions; the checker has seen that stacks and locals have what they take. */
    private static final class Machine {
        private static final int FRAME_CELLS = LOCALS + STACK_LIMIT;

        final int[] inputs = new int[CHANNELS];
        final int[] policies = new int[CHANNELS];
        final Heap heap = new Heap();
        final Events events = new Events();
        int ending = NONE;
        int endValue = 0;
        int endMarks = 0;
        int done = 0;

        private Program program;
        private int flows = 0;

        /** Frames, each with its locals and then its stack. */
        private final int[] value = new int[FRAME_LIMIT * FRAME_CELLS];
        private final int[] marks = new int[FRAME_LIMIT * FRAME_CELLS];
        private final int[] stackEnd = new int[FRAME_LIMIT];
        private final int[] position = new int[FRAME_LIMIT];
        private final Routine[] routines = new Routine[FRAME_LIMIT];
        private int frame = 0;

        /** Of the instruction at hand: the marks of all that it took, and of what it took last. */
        private int takenMarks = 0;
        private int lastMarks = 0;
        private int fault = NONE;
        private int thrown = NONE;
        private int next = 0;

        boolean hasRun() {
            return ending != NONE;
        }

        void forget() {
            ending = NONE;
        }

        void begin(Program loaded, int flowBits) {
            program = loaded;
            flows = flowBits;
            heap.startAnew(program.staticKind);
            events.startAnew();
            ending = NONE;
            endValue = 0;
            endMarks = 0;
            done = 0;
        }

        void enterFirst(Routine routine, int[] values, int[] valueMarks) {
            frame = 0;
            openFrame(routine);
            position[0] = next;
            int taken = routine.localsTaken();
            for (int i = 0; i < taken; i++) {
                value[i] = routine.takesRefAt(i) ? NONE : values[i];
                marks[i] = valueMarks[i];
            }
        }

        void goOn() {
            for (int turn = 0; ending == NONE && turn <= STEP_LIMIT; turn++) {
                if (done == STEP_LIMIT) {
                    ending = ENDED_BY_STEPS;
                } else {
                    perform(position[frame]);
                    settle();
                }
            }
        }

        /** An instruction that a limit stops isn't done, one that throws is. */
        private void settle() {
            if (fault != NONE) {
                makeFault();
            }
            if (ending > ENDED_BY_THROW) {
                return;
            }
            done++;
            if (thrown != NONE) {
                unwind();
            } else {
                position[frame] = next;
            }
        }

        private void makeFault() {
            if (heap.hasRoom(0)) {
                thrown = heap.make(fault, 0, 0);
            } else {
                ending = ENDED_BY_CELLS;
            }
        }

        private void unwind() {
            for (int f = frame; f >= 0; f--) {
                int handler = handlerIn(f);
                if (handler != NONE) {
                    frame = f;
                    position[f] = handler;
                    stackEnd[f] = 0;
                    push(thrown, takenMarks);
                    return;
                }
            }
            endWith(ENDED_BY_THROW, thrown, takenMarks);
        }

        private int handlerIn(int f) {
            Code code = program.code;
            Routine routine = routines[f];
            for (int t = routine.tryFrom; t < routine.tryTo; t++) {
                if (code.liesIn(position[f], t) && isOf(thrown, code.tryType[t])) {
                    return code.tryHandler[t];
                }
            }
            return NONE;
        }

        private void endWith(int how, int what, int whatMarks) {
            ending = how;
            endValue = what;
            endMarks = whatMarks;
        }

        private void perform(int at) {
            int word = program.code.word[at];
            int first = program.code.first[at];
            int second = program.code.second[at];
            next = at + 1;
            takenMarks = 0;
            lastMarks = 0;
            fault = NONE;
            thrown = NONE;
            if (word <= SWAP) {
                moveValue(word, first, second);
            } else if (word <= NEG) {
                calculate(word);
            } else if (word <= OTHER) {
                jump(word, first);
            } else if (word <= PUTS) {
                useField(word, first, second);
            } else if (word <= LENGTH) {
                useArray(word);
            } else if (word <= THROW) {
                enterOrLeave(word, first, second);
            } else if (word <= AS) {
                askType(word, first);
            } else {
                useMarks(word, first);
            }
        }

        private void moveValue(int word, int first, int second) {
            switch (word) {
                case PUSH: push(first, 0); break;
                case NULL: push(NONE, 0); break;
                case LOAD: push(value[localCell(first)], marks[localCell(first)]); break;
                case STORE:
                    value[localCell(first)] = pop();
                    marks[localCell(first)] = lastMarks;
                    break;
                case INC: value[localCell(first)] += second; break;
                case DUP:
                    int top = pop();
                    push(top, lastMarks);
                    push(top, lastMarks);
                    break;
                case POP: pop(); break;
                default: swap(); break;
            }
        }

        private void swap() {
            int upper = pop();
            int upperMarks = lastMarks;
            int lower = pop();
            int lowerMarks = lastMarks;
            push(upper, upperMarks);
            push(lower, lowerMarks);
        }

        private void calculate(int word) {
            int right = pop();
            if (word == NEG) {
                push(-right, takenMarks);
                return;
            }
            int left = pop();
            if ((word == DIV || word == REM) && right == 0) {
                fault = DIVIDE_FAULT;
                return;
            }
            push(calculated(word, left, right), takenMarks);
        }

        /** Called with no right of 0 where word is div or rem. */
        private static int calculated(int word, int left, int right) {
            switch (word) {
                case ADD: return left + right;
                case SUB: return left - right;
                case MUL: return left * right;
                case DIV: return right == 0 ? 0 : left / right;
                case REM: return right == 0 ? 0 : left % right;
                case AND: return left & right;
                case OR: return left | right;
                case XOR: return left ^ right;
                case SHL: return left << right;
                case SHR: return left >> right;
                default: return left >>> right;
            }
        }

        private void jump(int word, int label) {
            boolean goes = true;
            if (word >= IFNULL) {
                int ref = pop();
                int than = word >= SAME ? pop() : NONE;
                goes = (ref == than) == (word == IFNULL || word == SAME);
            } else if (word >= CMPEQ) {
                int right = pop();
                goes = holds(word - CMPEQ + IFEQ, pop(), right);
            } else if (word != GOTO) {
                goes = holds(word, pop(), 0);
            }
            if (goes) {
                next = label;
            }
        }

        private static boolean holds(int test, int left, int right) {
            switch (test) {
                case IFEQ: return left == right;
                case IFNE: return left != right;
                case IFLT: return left < right;
                case IFGE: return left >= right;
                case IFGT: return left > right;
                default: return left <= right;
            }
        }

        private void useField(int word, int type, int member) {
            switch (word) {
                case NEW: makeObject(type); break;
                case GET: getField(type, program.fieldSlot[member]); break;
                case PUT: putField(type, program.fieldSlot[member]); break;
                case GETS: push(heap.staticValue[member], heap.staticMarks[member]); break;
                default:
                    heap.staticValue[member] = pop();
                    heap.staticMarks[member] = lastMarks;
                    break;
            }
        }

        private void makeObject(int type) {
            int slots = program.types[type].fieldsInAll();
            if (!heap.hasRoom(slots)) {
                ending = ENDED_BY_CELLS;
                return;
            }
            int ref = heap.make(type, slots, 0);
            for (int t = type; t != NONE; t = program.types[t].parent) {
                clearRefs(ref, program.types[t]);
            }
            push(ref, 0);
        }

        private void clearRefs(int ref, Type type) {
            for (int i = type.fieldFrom; i < type.fieldTo; i++) {
                if (program.fieldKind[i] == REF) {
                    heap.value[heap.cellOf(ref, program.fieldSlot[i])] = NONE;
                }
            }
        }

        private void getField(int type, int slot) {
            int ref = pop();
            if (mustBeObject(ref, type)) {
                int cell = heap.cellOf(ref, slot);
                push(heap.value[cell], heap.marks[cell] | ifFlows(FLOW_OF_READ_REF, lastMarks));
            }
        }

        private void putField(int type, int slot) {
            int put = pop();
            int putMarks = lastMarks;
            int ref = pop();
            if (mustBeObject(ref, type)) {
                int cell = heap.cellOf(ref, slot);
                heap.value[cell] = put;
                heap.marks[cell] = putMarks | ifFlows(FLOW_OF_WRITTEN_REF, lastMarks);
            }
        }

        private void useArray(int word) {
            switch (word) {
                case INTS: makeArray(INT_ARRAY); break;
                case REFS: makeArray(REF_ARRAY); break;
                case IGET: getElement(INT_ARRAY); break;
                case IPUT: putElement(INT_ARRAY); break;
                case RGET: getElement(REF_ARRAY); break;
                case RPUT: putElement(REF_ARRAY); break;
                default: takeLength(); break;
            }
        }

        private void makeArray(int sort) {
            int length = pop();
            if (length < 0) {
                fault = SIZE_FAULT;
            } else if (!heap.hasRoom(length)) {
                ending = ENDED_BY_CELLS;
            } else {
                push(heap.make(sort, length, lastMarks), 0);
            }
        }

        private void getElement(int sort) {
            int index = pop();
            int indexMarks = lastMarks;
            int ref = pop();
            if (mustBeElement(ref, sort, index)) {
                int cell = heap.cellOf(ref, index);
                int more = ifFlows(FLOW_OF_INDEX, indexMarks) | ifFlows(FLOW_OF_READ_REF, lastMarks);
                push(heap.value[cell], heap.marks[cell] | more);
            }
        }

        private void putElement(int sort) {
            int put = pop();
            int putMarks = lastMarks;
            int index = pop();
            int indexMarks = lastMarks;
            int ref = pop();
            if (mustBeElement(ref, sort, index)) {
                int cell = heap.cellOf(ref, index);
                int more = ifFlows(FLOW_OF_INDEX, indexMarks) | ifFlows(FLOW_OF_WRITTEN_REF, lastMarks);
                heap.value[cell] = put;
                heap.marks[cell] = putMarks | more;
            }
        }

        private void takeLength() {
            int ref = pop();
            if (ref == NONE) {
                fault = NULL_FAULT;
            } else if (heap.sortOf(ref) >= ANY) {
                fault = CAST_FAULT;
            } else {
                push(heap.slotsOf(ref), heap.lengthMarksOf(ref) | ifFlows(FLOW_OF_READ_REF, lastMarks));
            }
        }

        private int ifFlows(int bit, int flowing) {
            return (flows & bit) != 0 ? flowing : 0;
        }

        private boolean mustBeObject(int ref, int type) {
            if (ref == NONE) {
                fault = NULL_FAULT;
            } else if (heap.sortOf(ref) < ANY || !program.isOfType(heap.sortOf(ref), type)) {
                fault = CAST_FAULT;
            }
            return fault == NONE;
        }

        private boolean mustBeElement(int ref, int sort, int index) {
            if (ref == NONE) {
                fault = NULL_FAULT;
            } else if (heap.sortOf(ref) != sort) {
                fault = CAST_FAULT;
            } else if (index < 0 || index >= heap.slotsOf(ref)) {
                fault = BOUNDS_FAULT;
            }
            return fault == NONE;
        }

        /** Arrays are of Any alone. */
        private boolean isOf(int ref, int type) {
            int sort = heap.sortOf(ref);
            return sort < ANY ? type == ANY : program.isOfType(sort, type);
        }

        private void enterOrLeave(int word, int type, int member) {
            switch (word) {
                case CALL: enter(program.routines[member]); break;
                case VIRT: enterVirtual(type, program.routines[member]); break;
                case RET: leave(); break;
                default:
                    int ref = pop();
                    if (ref == NONE) {
                        fault = NULL_FAULT;
                    } else {
                        thrown = ref;
                    }
                    break;
            }
        }

        private void enterVirtual(int type, Routine named) {
            int end = stackStart() + stackEnd[frame];
            int receiver = end - named.localsTaken();
            for (int i = receiver; i < end; i++) {
                takenMarks |= marks[i];
            }
            int ref = value[receiver];
            if (mustBeObject(ref, type)) {
                int nearest = program.findRoutine(heap.sortOf(ref), named.name, true);
                enter(nearest == NONE ? named : program.routines[nearest]);
            }
        }

        private void enter(Routine routine) {
            if (frame + 1 == FRAME_LIMIT) {
                ending = ENDED_BY_FRAMES;
                return;
            }
            int taken = routine.localsTaken();
            stackEnd[frame] -= taken;
            int from = stackStart() + stackEnd[frame];
            frame++;
            openFrame(routine);
            System.arraycopy(value, from, value, frame * FRAME_CELLS, taken);
            System.arraycopy(marks, from, marks, frame * FRAME_CELLS, taken);
        }

        private void openFrame(Routine routine) {
            routines[frame] = routine;
            stackEnd[frame] = 0;
            next = routine.codeFrom;
        }

        private void leave() {
            int answer = routines[frame].answer;
            int answered = answer == 0 ? 0 : pop();
            if (frame == 0) {
                endWith(answer, answered, lastMarks);
                return;
            }
            frame--;
            next = position[frame] + 1;
            if (answer != 0) {
                push(answered, lastMarks);
            }
        }

        private void askType(int word, int type) {
            int ref = pop();
            boolean fits = ref != NONE && isOf(ref, type);
            if (word == IS) {
                push(fits ? 1 : 0, lastMarks);
            } else if (fits || ref == NONE) {
                push(ref, lastMarks);
            } else {
                fault = CAST_FAULT;
            }
        }

        private void useMarks(int word, int number) {
            if (word == SOURCE) {
                push(inputs[number], 1 << number);
                return;
            }
            int taken = pop();
            if (word == CLEAN) {
                push(taken, lastMarks & ~number);
            } else if (word == MARK) {
                push(taken, lastMarks | number);
            } else if (events.size == EVENT_LIMIT) {
                ending = ENDED_BY_EVENTS;
            } else {
                events.add(number, taken, lastMarks, (policies[number] & lastMarks) != 0);
            }
        }

        private int localCell(int local) {
            return frame * FRAME_CELLS + local;
        }

        private int stackStart() {
            return frame * FRAME_CELLS + LOCALS;
        }

        private void push(int pushed, int pushedMarks) {
            int cell = stackStart() + stackEnd[frame];
            value[cell] = pushed;
            marks[cell] = pushedMarks;
            stackEnd[frame]++;
        }

        private int pop() {
            stackEnd[frame]--;
            int cell = stackStart() + stackEnd[frame];
            lastMarks = marks[cell];
            takenMarks |= lastMarks;
            return value[cell];
        }
    }
}
