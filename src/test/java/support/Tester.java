/** Feeds texts, compares answers, counts those that are not as due. */
final class Tester {
    private int wrong = 0;
    private int asked = 0;

    void due(String call, long got, long want) {
        asked++;
        if (got != want) {
            wrong++;
            if (wrong <= 50) {
                System.out.println(call + " answered " + got + ", due is " + want);
            }
        }
    }

    void due(String call, boolean got, boolean want) {
        due(call, got ? 1 : 0, want ? 1 : 0);
    }

    int wrongAnswers() {
        return wrong;
    }

    /** Ends the test: with exit code 1 if there was a wrong answer. */
    void finish() {
        System.out.println(wrong == 0 ? "all " + asked + " answers are as due" : wrong + " answers are not as due");
        if (wrong != 0) {
            System.exit(1);
        }
    }

    /** The four bytes of a text from at on, the highest first, 0 behind its end. */
    static int fourBytes(String text, int at) {
        int number = 0;
        for (int i = at; i < at + 4; i++) {
            number = number << 8 | (i < text.length() ? text.charAt(i) & 255 : 0);
        }
        return number;
    }

    static void feed(TaintHouse house, String text) {
        for (int at = 0; at < text.length(); at += 20) {
            house.feed(fourBytes(text, at), fourBytes(text, at + 4), fourBytes(text, at + 8),
                fourBytes(text, at + 12), fourBytes(text, at + 16));
        }
        house.end(text.length());
    }

    static int read(TaintHouse house, String text) {
        feed(house, text);
        return house.text();
    }

    /** A new object with this text, which must be right. */
    TaintHouse house(String text) {
        TaintHouse house = new TaintHouse();
        int methods = read(house, text);
        asked++;
        if (methods < 0) {
            wrong++;
            System.out.println(text + "\n  text() answered " + methods + ", place() " + house.place());
        }
        return house;
    }

    void dueText(String text, int want, int wantPlace) {
        TaintHouse house = new TaintHouse();
        due("text() of " + text, read(house, text), want);
        due("place() of " + text, house.place(), wantPlace);
    }

    void dueWrong(String text, int at) {
        dueText(text, -1 - at, TaintHouse.NONE);
    }

    void dueFault(String text, int kind, int at) {
        dueText(text, -5000 - kind, at);
    }

    void dueRight(String text, int methods) {
        dueText(text, methods, TaintHouse.NONE);
    }
}
