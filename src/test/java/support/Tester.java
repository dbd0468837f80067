import java.util.LinkedHashMap;
import java.util.Map;

/** Feeds texts, compares answers, counts those that are not as due. */
final class Tester {
    /** An object is used for no more calls than these. */
    private static final int MOST_CALLS = 512;

    private int wrong = 0;
    private int asked = 0;
    private TaintHouse used = new TaintHouse();
    private int usedCalls = 0;
    private String sentence = "";
    private final Map<String, Integer> asksBySentence = new LinkedHashMap<>();

    /** The words of the document by which the answers from here on are due. */
    void sentence(String words) {
        sentence = words;
        asksBySentence.putIfAbsent(words, 0);
    }

    /** All sentences that were told, each with how many answers were compared by it. */
    Map<String, Integer> asksBySentence() {
        return asksBySentence;
    }

    void due(String call, long got, long want) {
        asked++;
        boolean bySentence = !sentence.isEmpty();
        if (bySentence) {
            asksBySentence.merge(sentence, 1, Integer::sum);
        }
        if (got != want) {
            wrong++;
            if (wrong <= 50) {
                System.out.println(call + " answered " + got + ", due is " + want + (bySentence ? "\n  by: " + sentence : ""));
            }
        }
    }

    void due(String call, boolean got, boolean want) {
        due(call, got ? 1 : 0, want ? 1 : 0);
    }

    int wrongAnswers() {
        return wrong;
    }

    /** Ends the test: with exit code 1 if there was a wrong answer. */
    void finish() {
        System.out.println(wrong == 0 ? "all " + asked + " answers are as due" : wrong + " answers are not as due");
        if (wrong != 0) {
            System.exit(1);
        }
    }

    /** The four bytes of a text from at on, the highest first, 0 behind its end. */
    static int fourBytes(String text, int at) {
        int number = 0;
        for (int i = at; i < at + 4; i++) {
            number = number << 8 | (i < text.length() ? text.charAt(i) & 255 : 0);
        }
        return number;
    }

    /** A part n times, each with its number, from 0 on, in place of %. */
    static String times(int n, String part) {
        StringBuilder all = new StringBuilder();
        for (int i = 0; i < n; i++) {
            all.append(part.replace("%", String.valueOf(i)));
        }
        return all.toString();
    }

    static void feed(TaintHouse house, String text) {
        for (int at = 0; at < text.length(); at += 20) {
            house.feed(fourBytes(text, at), fourBytes(text, at + 4), fourBytes(text, at + 8),
                fourBytes(text, at + 12), fourBytes(text, at + 16));
        }
        house.end(text.length());
    }

    static int read(TaintHouse house, String text) {
        feed(house, text);
        return house.text();
    }

    /** A new object with this text, which must be right. */
    TaintHouse house(String text) {
        TaintHouse house = new TaintHouse();
        int methods = read(house, text);
        asked++;
        if (methods < 0) {
            wrong++;
            System.out.println(text + "\n  text() answered " + methods + ", place() " + house.place());
        }
        return house;
    }

    /** Of a new object, and of one that has read other texts. */
    void dueText(String text, int want, int wantPlace) {
        dueText(new TaintHouse(), text, want, wantPlace);
        int calls = text.length() / 20 + 5;
        usedCalls += calls;
        if (usedCalls > MOST_CALLS) {
            used = new TaintHouse();
            usedCalls = calls;
        }
        dueText(used, text, want, wantPlace);
    }

    private void dueText(TaintHouse house, String text, int want, int wantPlace) {
        due("text() of " + text, read(house, text), want);
        due("place() of " + text, house.place(), wantPlace);
        due("count(4) behind text()", house.count(4), 0);
    }

    /** The place of ~ in a text is the one that is due; the text that is read has no ~ in it. */
    void dueWrong(String marked) {
        dueText(marked.replace("~", ""), -1 - marked.indexOf('~'), TaintHouse.NONE);
    }

    void dueFault(int kind, String marked) {
        dueText(marked.replace("~", ""), -5000 - kind, marked.indexOf('~'));
    }

    void dueRight(String text, int methods) {
        dueText(text, methods, TaintHouse.NONE);
    }

    /** Runs a method of a new object with this text, and looks at how it ends, with what. */
    TaintHouse dueRun(String text, int method, int ending, int value, int marks) {
        TaintHouse house = house(text);
        dueRun(house, text, method, ending, value, marks);
        return house;
    }

    /** Twice, since a run leaves nothing to the next one. */
    void dueRun(TaintHouse house, String text, int method, int ending, int value, int marks) {
        for (int round = 0; round < 2; round++) {
            due("run(" + method + ") of " + text, house.run(method), ending);
            due("result(0) of " + text, house.result(0), ending);
            due("result(1) of " + text, house.result(1), value);
            due("result(2) of " + text, house.result(2), marks);
        }
    }

    /** The code of a method that answers an int, run with input k being k + 1. */
    TaintHouse dueInt(String code, int value, int marks) {
        String text = "class A { field x int; field r ref; static s int; method f() int { " + code + " } }";
        TaintHouse house = house(text);
        for (int k = 0; k < 16; k++) {
            house.input(k, k + 1);
        }
        dueRun(house, text, 0, 1, value, marks);
        return house;
    }
}
