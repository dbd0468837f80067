/** Promises 2, 3 and 18: the tape. */
public final class TapeTest {
    private static final Tester T = new Tester();

    public static void main(String[] args) {
        bytesOfNumbers();
        limitOfTape();
        ends();
        emptiedByText();
        T.finish();
    }

    private static void bytesOfNumbers() {
        // "class A { }" and then a text that goes on in each of the other numbers.
        String text = "class A { field x1 i";
        TaintHouse house = new TaintHouse();
        T.due("feed", house.feed(0x636c6173, 0x73204120, 0x7b206669, 0x656c6420, 0x78312069), true);
        T.due("count(4)", house.count(4), 20);
        T.due("feed", house.feed(0x6e743b20, 0x7d202020, 0x20202020, 0x20202020, 0x20202020), true);
        T.due("count(4)", house.count(4), 40);
        T.due("text() of " + text + "nt; }", house.text(), 0);
        T.due("type(7, 1)", house.type(7, 1), 1);
        // Bytes above 127 are bytes of no token, wherever they stand in a number.
        for (int shift = 0; shift < 32; shift += 8) {
            TaintHouse odd = new TaintHouse();
            odd.feed(0x20202020 & ~(255 << shift) | 0xE1 << shift, 0, 0, 0, 0);
            T.due("text() of an odd byte", odd.text(), -1 - (3 - shift / 8));
        }
        TaintHouse ahead = new TaintHouse();
        ahead.feed(0x20202020, 0x20202020, 0x20202020, 0x20202020, 0x20202000);
        T.due("text() with a byte 0 at its end", ahead.text(), -1 - 19);
    }

    private static void limitOfTape() {
        TaintHouse house = new TaintHouse();
        int blanks = 0x20202020;
        for (int i = 0; i < 200; i++) {
            T.due("feed " + i, house.feed(blanks, blanks, blanks, blanks, blanks), true);
        }
        T.due("count(4)", house.count(4), 4000);
        T.due("feed of 20 bytes above 4000", house.feed(blanks, blanks, blanks, blanks, blanks), false);
        T.due("count(4)", house.count(4), 4000);
        T.due("end(3981)", house.end(3981), true);
        T.due("feed at 3981", house.feed(0x41414141, 0, 0, 0, 0), false);
        T.due("count(4)", house.count(4), 3981);
        T.due("end(3980)", house.end(3980), true);
        T.due("feed at 3980", house.feed(blanks, blanks, blanks, blanks, 0x20202041), true);
        T.due("count(4)", house.count(4), 4000);
        T.due("text() of a full tape", house.text(), -1 - 3999);
        StringBuilder full = new StringBuilder("class A { method f() none { ret; } }");
        while (full.length() < 3999) {
            full.append('#');
        }
        T.due("text() of a full tape", Tester.read(house, full.append('x').toString()), 1);
    }

    private static void ends() {
        TaintHouse house = new TaintHouse();
        T.due("end(0) of an empty tape", house.end(0), true);
        T.due("end(1) of an empty tape", house.end(1), false);
        T.due("end(-1) of an empty tape", house.end(-1), false);
        house.feed(0x636c6173, 0x73204120, 0x7b207d41, 0x41414141, 0x41414141);
        T.due("end(21)", house.end(21), false);
        T.due("end(-1)", house.end(-1), false);
        T.due("end(least)", house.end(Integer.MIN_VALUE), false);
        T.due("count(4)", house.count(4), 20);
        T.due("end(20)", house.end(20), true);
        T.due("count(4)", house.count(4), 20);
        T.due("end(11)", house.end(11), true);
        T.due("end(12)", house.end(12), false);
        T.due("count(4)", house.count(4), 11);
        T.due("text()", house.text(), 0);
        T.due("count(0)", house.count(0), 8);
    }

    private static void emptiedByText() {
        TaintHouse house = new TaintHouse();
        String[] texts = {"class A { }", "class", "class A { } class A { }", ""};
        int[] answers = {0, -6, -5001, -1};
        for (int i = 0; i < texts.length; i++) {
            T.due("text() of " + texts[i], Tester.read(house, texts[i]), answers[i]);
            T.due("count(4)", house.count(4), 0);
            T.due("text() of an empty tape", house.text(), -1);
        }
    }
}
