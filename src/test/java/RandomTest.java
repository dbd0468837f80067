import java.util.Random;

/** All promises at once: texts by chance, and the same calls to the program and to the model. */
public final class RandomTest {
    private static final Tester TESTER = new Tester();
    private static final int[] NUMBERS =
        {0, 1, 2, 3, 4, 5, 7, 31, 32, 100, -1, -2, 65535, 65536, Integer.MAX_VALUE, Integer.MIN_VALUE};

    private final Random random;
    private final TaintHouse house = new TaintHouse();
    private final Model model = new Model();

    private RandomTest(long seed) {
        random = new Random(seed);
    }

    public static void main(String[] args) {
        long rounds = args.length > 0 ? Long.parseLong(args[0]) : 2500;
        long first = args.length > 1 ? Long.parseLong(args[1]) : 1;
        for (long seed = first; seed < first + rounds; seed++) {
            new RandomTest(seed).all();
            if (TESTER.wrongAnswers() != 0) {
                System.out.println("seed " + seed);
                break;
            }
        }
        TESTER.finish();
    }

    private void all() {
        Texts texts = new Texts(random);
        int many = 1 + random.nextInt(3);
        for (int i = 0; i < many; i++) {
            String told = texts.next();
            tell(told);
            look();
            int runs = 1 + random.nextInt(4);
            for (int k = 0; k < runs; k++) {
                setUp();
                run();
            }
            if (TESTER.wrongAnswers() != 0) {
                System.out.println("behind the text:\n" + told);
                return;
            }
        }
    }

    private int anyNumber() {
        return NUMBERS[random.nextInt(NUMBERS.length)];
    }

    private void tell(String text) {
        for (int at = 0; at < text.length(); at += 20) {
            int a = Tester.fourBytes(text, at);
            int b = Tester.fourBytes(text, at + 4);
            int c = Tester.fourBytes(text, at + 8);
            int d = Tester.fourBytes(text, at + 12);
            int e = Tester.fourBytes(text, at + 16);
            TESTER.due("feed", house.feed(a, b, c, d, e), model.feed(a, b, c, d, e));
        }
        int extra = random.nextInt(20) == 0 ? random.nextInt(40) - 20 : 0;
        TESTER.due("end", house.end(text.length() + extra), model.end(text.length() + extra));
        TESTER.due("count(4)", house.count(4), model.count(4));
        TESTER.due("text()", house.text(), model.text());
        TESTER.due("place()", house.place(), model.place());
    }

    private void look() {
        for (int what = -1; what < 6; what++) {
            TESTER.due("count", house.count(what), model.count(what));
        }
        for (int c = -1; c <= model.count(0); c++) {
            for (int what = -1; what < 4; what++) {
                TESTER.due("type(" + c + ", " + what + ")", house.type(c, what), model.type(c, what));
            }
        }
        for (int m = -1; m <= model.count(1); m++) {
            for (int what = -1; what < 7; what++) {
                TESTER.due("method(" + m + ", " + what + ")", house.method(m, what), model.method(m, what));
            }
        }
        lookAtRun();
    }

    private void setUp() {
        int v = random.nextInt(3) == 0 ? anyNumber() : random.nextInt(8);
        TESTER.due("flows", house.flows(v), model.flows(v));
        for (int i = 0; i < 6; i++) {
            int k = random.nextInt(18) - 1;
            int number = random.nextInt(3) == 0 ? anyNumber() : random.nextInt(4);
            TESTER.due("input", house.input(k, number), model.input(k, number));
            int policy = random.nextInt();
            TESTER.due("policy", house.policy(k, policy), model.policy(k, policy));
            int marks = random.nextInt();
            int a = random.nextInt(9) - 1;
            TESTER.due("argument", house.argument(a, number, marks), model.argument(a, number, marks));
        }
    }

    private void run() {
        int m = random.nextInt(model.count(1) + 2) - (random.nextInt(20) == 0 ? 1 : 0);
        TESTER.due("run(" + m + ")", house.run(m), model.run(m));
        lookAtRun();
    }

    private void lookAtRun() {
        for (int what = -1; what < 9; what++) {
            TESTER.due("result(" + what + ")", house.result(what), model.result(what));
        }
        int events = Math.max(0, model.result(4));
        for (int i = -1; i <= events; i++) {
            for (int what = -1; what < 5; what++) {
                TESTER.due("event(" + i + ", " + what + ")", house.event(i, what), model.event(i, what));
            }
        }
        int objects = Math.max(0, model.result(6));
        for (int i = -1; i <= objects; i++) {
            for (int what = -1; what < 4; what++) {
                TESTER.due("object(" + i + ", " + what + ")", house.object(i, what), model.object(i, what));
            }
            int slots = Math.max(0, model.object(i, 1));
            for (int k = -1; k <= slots; k++) {
                for (int what = -1; what < 3; what++) {
                    String call = "slot(" + i + ", " + k + ", " + what + ")";
                    TESTER.due(call, house.slot(i, k, what), model.slot(i, k, what));
                }
            }
        }
        for (int k = -1; k <= model.count(2); k++) {
            for (int what = -1; what < 3; what++) {
                TESTER.due("stat(" + k + ", " + what + ")", house.stat(k, what), model.stat(k, what));
            }
        }
    }
}
