/** The tape, sentence by sentence: what TEXTS says of it, and promises 2 and 3. */
public final class TapeEdgeTest {
    private static final int BLANKS = 0x20202020;
    private final Tester t;

    TapeEdgeTest(Tester tester) {
        t = tester;
    }

    public static void main(String[] args) {
        Tester tester = new Tester();
        new TapeEdgeTest(tester).all();
        tester.finish();
    }

    void all() {
        mostBytes();
        wholeTape();
        emptied();
        twentyBytes();
        refusedFeed();
        firstBytes();
        refusedEnd();
    }

    /** A tape of blanks, of a length that is 20 times a number. */
    private TaintHouse blanks(int length) {
        TaintHouse house = new TaintHouse();
        for (int i = 0; i < length / 20; i++) {
            t.due("feed " + i, house.feed(BLANKS, BLANKS, BLANKS, BLANKS, BLANKS), true);
        }
        t.due("count(4)", house.count(4), length);
        return house;
    }

    private void mostBytes() {
        t.sentence("THE TAPE has at most 4000 bytes.");
        TaintHouse house = blanks(4000);
        t.due("feed to 4020", house.feed(BLANKS, BLANKS, BLANKS, BLANKS, BLANKS), false);
        String text = "class A { method f() none { ret; } }";
        String full = Tester.times(4000 - text.length(), " ") + text;
        t.dueText(full, 1, -1);
        t.dueText(full.substring(0, 3999), -1 - 3999, -1);
        t.dueText(full.substring(0, 3999) + ";", -1 - 3999, -1);
        t.dueText(full.substring(0, 3998) + "#}", -1 - 4000, -1);
    }

    private void wholeTape() {
        t.sentence("A TEXT is the whole tape;");
        String text = "class A { } class B {   } ";
        TaintHouse house = new TaintHouse();
        for (int at = 0; at < 40; at += 20) {
            house.feed(Tester.fourBytes(text, at), Tester.fourBytes(text, at + 4), Tester.fourBytes(text, at + 8),
                Tester.fourBytes(text, at + 12), Tester.fourBytes(text, at + 16));
        }
        t.due("text() with bytes 0 behind", house.text(), -1 - 26);
        t.due("count(0)", house.count(0), 7);
        t.due("text()", Tester.read(house, text), 0);
        t.due("count(0)", house.count(0), 9);
        t.due("text() of one class and of half a one", Tester.read(house, text.substring(0, 24)), -1 - 24);
        t.due("text() of one class", Tester.read(house, text.substring(0, 12)), 0);
        t.due("count(0)", house.count(0), 8);
    }

    private void emptied() {
        t.sentence("the call that reads it empties it, whatever it answers.");
        String[] texts = {"class A { }", "", "x", "class A", "class A { } class A { }", "class A : B { }",
            "class A { virtual v() none { ret; } } class B : A { virtual v() int { push 1; ret; } }",
            "class A { method f() none { a: try a a a Any; ret; } }", "class A { method f() none { } }"};
        int[] answers = {0, -1, -1, -8, -5001, -5002, -5003, -5004, -5005};
        TaintHouse house = new TaintHouse();
        for (int i = 0; i < texts.length; i++) {
            t.due("text() of " + texts[i], Tester.read(house, texts[i]), answers[i]);
            t.due("count(4)", house.count(4), 0);
            t.due("end(1)", house.end(1), false);
            t.due("text() of what is left", house.text(), -1);
            t.due("place()", house.place(), -1);
        }
        t.due("count(0)", house.count(0), 8);
    }

    private void twentyBytes() {
        t.sentence("Twenty bytes more on the tape, four in each number, the highest first;");
        for (int at = 0; at < 20; at++) {
            for (int odd : new int[] {0, 1, 127, 128, 255}) {
                int[] numbers = {BLANKS, BLANKS, BLANKS, BLANKS, BLANKS};
                int shift = 8 * (3 - at % 4);
                numbers[at / 4] = BLANKS & ~(255 << shift) | odd << shift;
                TaintHouse house = new TaintHouse();
                t.due("feed", house.feed(numbers[0], numbers[1], numbers[2], numbers[3], numbers[4]), true);
                t.due("count(4)", house.count(4), 20);
                t.due("text() with byte " + odd + " at " + at, house.text(), -1 - at);
            }
        }
        TaintHouse house = new TaintHouse();
        // "class abcdefghijkl {" and "}" with blanks behind it.
        t.due("feed", house.feed(0x636c6173, 0x73206162, 0x63646566, 0x6768696a, 0x6b6c207b), true);
        t.due("feed", house.feed(0x7d202020, BLANKS, BLANKS, BLANKS, BLANKS), true);
        t.due("count(4)", house.count(4), 40);
        t.due("text()", house.text(), 0);
    }

    private void refusedFeed() {
        t.sentence("false, and nothing happens, if it would have more than 4000.");
        for (int length : new int[] {3981, 3982, 3999, 4000}) {
            TaintHouse house = blanks(4000);
            house.end(length);
            t.due("feed at " + length, house.feed(0x78787878, 0x78787878, 0x78787878, 0x78787878, 0x78787878), false);
            t.due("count(4)", house.count(4), length);
            t.due("text() of blanks alone", house.text(), -1 - length);
        }
        TaintHouse house = blanks(4000);
        house.end(3980);
        t.due("feed at 3980", house.feed(0x78787878, 0x78787878, 0x78787878, 0x78787878, 0x78787878), true);
        t.due("count(4)", house.count(4), 4000);
        t.due("text() of blanks and a name", house.text(), -1 - 3980);
        t.due("feed behind text()", house.feed(BLANKS, BLANKS, BLANKS, BLANKS, BLANKS), true);
    }

    private void firstBytes() {
        t.sentence("The tape has its first n bytes alone;");
        String text = "class A { } class B { } ";
        for (int n = 0; n <= text.length(); n++) {
            TaintHouse house = new TaintHouse();
            Tester.feed(house, text);
            t.due("end(" + n + ")", house.end(n), true);
            t.due("count(4)", house.count(4), n);
            boolean right = n == 11 || n == 12 || n >= 23;
            t.due("whether the first " + n + " bytes are right", house.text() == 0, right);
        }
        // What is cut off is no part of a token any more.
        dueCut("class A { field x ~in", "t; }");
        dueCut("class A { ~fiel", "d x int; }");
        dueCut("class A { method f() none { load 1~", "9; ret; } }");
        dueCut("class A { method f() none { push 0~", "7; ret; } }");
        dueCut("class A { method f() none { push 214748364~", "8; ret; } }");
        dueCut("class abcdefghijkl~", "m { }");
        dueCut("class A { } #~", "\n?");
        TaintHouse house = new TaintHouse();
        Tester.feed(house, "class A { zzzzzzzzzz");
        t.due("end(10)", house.end(10), true);
        t.due("feed goes on there", house.feed(0x7d202020, BLANKS, BLANKS, BLANKS, BLANKS), true);
        t.due("count(4)", house.count(4), 30);
        t.due("text()", house.text(), 0);
    }

    /** The part ahead is left by end(); the text is wrong at ~, or right if this is behind #. */
    private void dueCut(String ahead, String cut) {
        String left = ahead.replace("~", "");
        TaintHouse house = new TaintHouse();
        Tester.feed(house, left + cut);
        t.due("end(" + left.length() + ")", house.end(left.length()), true);
        t.due("text() of " + left, house.text(), left.endsWith("#") ? 0 : -1 - ahead.indexOf('~'));
    }

    private void refusedEnd() {
        t.sentence("false, and nothing happens, if it has not so many, or n is below 0.");
        int[] refused = {12, 13, 20, 4000, 4001, Integer.MAX_VALUE, -1, -2, -11, Integer.MIN_VALUE};
        TaintHouse house = new TaintHouse();
        Tester.feed(house, "class A { }");
        for (int n : refused) {
            t.due("end(" + n + ") of 11 bytes", house.end(n), false);
            t.due("count(4)", house.count(4), 11);
        }
        t.due("end(11)", house.end(11), true);
        t.due("text() of what was fed", house.text(), 0);
        for (int n : new int[] {1, -1, 20, Integer.MAX_VALUE, Integer.MIN_VALUE}) {
            t.due("end(" + n + ") of an empty tape", house.end(n), false);
            t.due("count(4)", house.count(4), 0);
        }
        t.due("end(0) of an empty tape", house.end(0), true);
    }
}
