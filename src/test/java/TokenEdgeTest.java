import java.util.List;

/** Tokens, sentence by sentence: names, numbers, signs, blanks and words. */
public final class TokenEdgeTest {
    private final Tester t;

    TokenEdgeTest(Tester tester) {
        t = tester;
    }

    public static void main(String[] args) {
        Tester tester = new Tester();
        new TokenEdgeTest(tester).all();
        tester.finish();
    }

    void all() {
        signsOfNames();
        lengthsOfNames();
        longNamesElsewhere();
        digitsOfNumbers();
        otherBytes();
        blanks();
        words();
        boundsOfNumbers();
        minus();
        minusZero();
        leastNumber();
    }

    private static String code(String items) {
        return "class A { method f() none { ret; " + items + " } }";
    }

    private static boolean isLetter(int b) {
        return b >= 'a' && b <= 'z' || b >= 'A' && b <= 'Z';
    }

    private static boolean isDigit(int b) {
        return b >= '0' && b <= '9';
    }

    private static boolean isBlank(int b) {
        return b == 9 || b == 10 || b == 13 || b == 32;
    }

    private void signsOfNames() {
        t.sentence("NAMES, a letter (a .. z, A .. Z) and then up to 11 letters or digits");
        for (int b = 0; b < 256; b++) {
            String first = "class " + (char) b + "b { }";
            t.dueText(first, isLetter(b) || isBlank(b) ? 0 : -1 - (b == '#' ? first.length() : 6), -1);
            String second = "class A" + (char) b + "b { }";
            if (isLetter(b) || isDigit(b)) {
                t.dueText(second, 0, -1);
                // One name, not two: told again it is the same, with another sign it is another one.
                t.dueText(second + second, -5001, second.length() + 6);
                t.dueText(second + (b == 'q' ? "class Arb { }" : "class Aqb { }"), 0, -1);
            } else if (b == ':') {
                t.dueText(second, -5002, 8);
            } else {
                t.dueText(second, -1 - (b == '#' ? second.length() : isBlank(b) || b == '{' ? 8 : 7), -1);
            }
        }
    }

    private void lengthsOfNames() {
        t.sentence("(a longer one is WRONG at its 13th sign);");
        String name = "a2345678901Z";
        for (int length = 1; length <= 12; length++) {
            t.dueRight("class " + name.substring(0, length) + " { }", 0);
        }
        for (String more : new String[] {"x", "0", "xy", "xxxxxxxxxxxxxxxxxxxxxxxx"}) {
            String tooLong = name + "~" + more;
            t.dueWrong("class " + tooLong + " { }");
            t.dueWrong("class " + tooLong);
            t.dueWrong("class A : " + tooLong + " { }");
            t.dueWrong("class A { field " + tooLong + " int; }");
            t.dueWrong("class A { static " + tooLong + " int; }");
            t.dueWrong("class A { method " + tooLong + "() none { ret; } }");
            t.dueWrong("class A { virtual " + tooLong + "() none { ret; } }");
            t.dueWrong(code(tooLong + ":"));
            t.dueWrong(code("goto " + tooLong + ";"));
            t.dueWrong(code("new " + tooLong + ";"));
            t.dueWrong(code("get " + tooLong + " x;"));
            t.dueWrong(code("get A " + tooLong + ";"));
            t.dueWrong(code("try " + tooLong + " a a A;"));
            t.dueWrong(code("try a " + tooLong + " a A;"));
            t.dueWrong(code("try a a " + tooLong + " A;"));
            t.dueWrong(code("try a a a " + tooLong + ";"));
        }
    }

    private void longNamesElsewhere() {
        t.sentence("A NAME with too many signs is WRONG at its first byte where no NAME can stand.");
        String tooLong = "~abcdefghijklm";
        t.dueWrong(tooLong);
        t.dueWrong("class A " + tooLong + " { }");
        t.dueWrong("class A { } " + tooLong);
        t.dueWrong("class A : Any " + tooLong + " { }");
        t.dueWrong("class A { " + tooLong + " }");
        t.dueWrong("class A { field x " + tooLong + "; }");
        t.dueWrong("class A { field x int " + tooLong + "; }");
        t.dueWrong("class A { method f " + tooLong + "() none { ret; } }");
        t.dueWrong("class A { method f(" + tooLong + ") none { ret; } }");
        t.dueWrong("class A { method f(int " + tooLong + ") none { ret; } }");
        t.dueWrong("class A { method f(int, " + tooLong + ") none { ret; } }");
        t.dueWrong("class A { method f() " + tooLong + " { ret; } }");
        t.dueWrong("class A { method f() none " + tooLong + " { ret; } }");
        t.dueWrong(code("x " + tooLong + ":"));
        t.dueWrong(code("add " + tooLong + ";"));
        t.dueWrong(code("push " + tooLong + ";"));
        t.dueWrong(code("push 1 " + tooLong + ";"));
        t.dueWrong(code("push - " + tooLong + ";"));
        t.dueWrong(code("inc 1 " + tooLong + ";"));
        t.dueWrong(code("goto x " + tooLong + ";"));
        t.dueWrong(code("get A x " + tooLong + ";"));
        t.dueWrong(code("try a a a A " + tooLong + ";"));
    }

    private void digitsOfNumbers() {
        t.sentence("NUMBERS, digits without a 0 ahead (0 itself), above 2147483647 WRONG at their first digit;");
        for (String right : new String[] {"0", "1", "9", "10", "100", "1000000000", "2147483646", "2147483647"}) {
            t.dueRight(code("push " + right + ";"), 1);
        }
        for (String wrong : new String[] {"0~0", "0~1", "0~9", "0~00", "0~2147483647", "0~99999999999999"}) {
            t.dueWrong(code("push " + wrong + ";"));
            t.dueWrong(code("push - " + wrong + ";"));
            t.dueWrong(code("load " + wrong + ";"));
            t.dueWrong(code("inc 1 " + wrong + ";"));
            t.dueWrong("class A { method f() none { push " + wrong);
        }
        // Those of more bits than an int or a long has, too: what is left of them in these is small.
        String[] large = {"2147483648", "2147483650", "3000000000", "4294967295", "4294967296", "4294967297", "9999999999",
            "21474836470", "9223372036854775807", "9223372036854775808", "18446744073709551615", "18446744073709551616",
            "18446744073709551617", "340282366920938463463374607431768211457", "1" + Tester.times(2000, "0")};
        for (String one : large) {
            for (String ahead : new String[] {"push", "load", "store", "inc", "inc 3", "source", "sink", "clean", "mark"}) {
                t.dueWrong(code(ahead + " ~" + one + ";"));
            }
            t.dueWrong("class ~" + one + " { }");
        }
        for (int b = 0; b < 256; b++) {
            String text = code("push 1" + (char) b + ";");
            int place = text.indexOf("push 1") + 6;
            if (isDigit(b) || isBlank(b)) {
                t.dueText(text, 1, -1);
            } else {
                t.dueText(text, -1 - (b == '#' ? text.length() : b == ';' ? place + 1 : place), -1);
            }
        }
    }

    /** No byte but those of tokens and blanks begins anything, wherever it stands. */
    private void otherBytes() {
        t.sentence("the signs { } ( ) ; : and the comma and - .");
        String signs = "{}();:,-";
        for (int b = 0; b < 256; b++) {
            boolean none = !isLetter(b) && !isDigit(b) && !isBlank(b) && b != '#' && signs.indexOf(b) < 0;
            String behind = "class A { }" + (char) b;
            t.dueText(behind, isBlank(b) || b == '#' ? 0 : -1 - 11, -1);
            if (none) {
                t.dueText((char) b + "class A { }", -1, -1);
                t.dueText("class A {" + (char) b + "}", -1 - 9, -1);
                t.dueText("class A { method f() none { push" + (char) b + "1; ret; } }", -1 - 32, -1);
                t.dueText("class A { method f() none { x" + (char) b + ": ret; } }", -1 - 29, -1);
            }
        }
        // Signs are tokens with and without blanks around them.
        String spaced = "class A : Any { method f ( int , ref ) none { x : push - 1 ; goto x ; } }";
        t.dueFault(5, spaced.replace("push", "~push"));
        String right = spaced.replace("goto x", "ret");
        t.dueRight(right, 1);
        t.dueRight(right.replaceAll(" ?([{}();:,-]) ?", "$1"), 1);
        t.dueRight(right.replace(" ", "\n\n"), 1);
    }

    private void blanks() {
        t.sentence("Blanks are 9, 10, 13, 32, and from # up to 10 or the end.");
        for (int b : new int[] {9, 10, 13, 32}) {
            String blank = String.valueOf((char) b);
            t.dueRight("class A { method f() none { push 1; ret; } }".replace(" ", blank), 1);
            t.dueRight(blank + blank + "class A { }" + blank, 0);
        }
        for (int b : new int[] {0, 8, 11, 12, 14, 28, 31, 33, 34, 36, 127, 133, 160, 255}) {
            t.dueText("class A {" + (char) b + "}", -1 - 9, -1);
        }
        t.dueRight("class#\nA#class B {\n{#}\n}", 0);
        t.dueRight("#\n##\n\n#\rclass\n#\nclass A { }", 0);
        t.dueRight("class A { }#", 0);
        t.dueRight("class A { } # class A { }", 0);
        t.dueRight("class A { } # class A { } \r class A { } # \t class", 0);
        t.dueRight("class A { }#\n", 0);
        t.dueRight("class A { # }\n }", 0);
        t.dueWrong("class A { # }~");
        t.dueWrong("class A { # }\r }~");
        t.dueWrong("class A { # }\u000b }~");
        t.dueWrong("class A { }#\n~x");
        t.dueWrong("class A { }#\n#\n~}");
        t.dueWrong("~cla#\nss A { }");
        t.dueWrong(code("push 1#\n~2;"));
        t.dueRight(code("inc 1#\n2;"), 1);
        // Within # all bytes are blank but 10.
        for (int b = 0; b < 256; b++) {
            t.dueText("class A {#" + (char) b + "}", b == 10 ? 0 : -1 - 12, -1);
            t.dueText("class A {#" + (char) b + "\n}", 0, -1);
        }
    }

    private void words() {
        t.sentence("The WORDS class field static method virtual int ref none try, and those of instructions, are no NAMES.");
        List<String> words = Words.all();
        t.due("words", words.size(), 68);
        String[] places = {"class ~@ { }", "class A : ~@ { }", "class A { field ~@ int; }", "class A { static ~@ ref; }",
            "class A { method ~@() none { ret; } }", "class A { virtual ~@() none { ret; } }", code("goto ~@;"),
            code("same ~@;"), code("new ~@;"), code("is ~@;"), code("get ~@ x;"), code("get A ~@;"), code("virt A ~@;"),
            code("try ~@ a a A;"), code("try a ~@ a A;"), code("try a a ~@ A;"), code("try a a a ~@;")};
        for (String word : words) {
            for (String place : places) {
                t.dueWrong(place.replace("@", word));
            }
            boolean ofItems = word.equals("try") || !Words.MEMBERS.contains(word);
            t.dueWrong(code(ofItems ? word + " ~:" : "~" + word + ":"));
            namesNearly(word, words);
        }
    }

    private void namesNearly(String word, List<String> words) {
        String shorter = word.substring(0, word.length() - 1);
        String larger = word.substring(0, 1).toUpperCase() + word.substring(1);
        for (String name : new String[] {word + "x", word + "0", "x" + word, shorter, larger, word.toUpperCase()}) {
            if (!words.contains(name)) {
                t.dueRight("class " + name + " { field " + name + "z int; } class Z : " + name + " { }", 0);
                t.dueRight(code(name + ": goto " + name + ";"), 1);
            }
        }
    }

    /** What stands ahead of a number, and the most that it may be. */
    private static final String[] BOUNDED = {"push:2147483647", "push -:2147483648", "load:15", "store:15", "inc:15",
        "inc 0:32767", "inc 0 -:32767", "inc 15:32767", "inc 15 -:32767", "source:15", "sink:15", "clean:65535", "mark:65535"};

    private void boundsOfNumbers() {
        t.sentence("A NUMBER that is not in the bounds told where it stands is WRONG at it.");
        for (String row : BOUNDED) {
            String ahead = row.substring(0, row.indexOf(':'));
            long most = Long.parseLong(row.substring(row.indexOf(':') + 1));
            String behind = ahead.equals("inc") ? " 1;" : ";";
            for (long number : new long[] {0, 1, most - 1, most}) {
                t.dueRight(code(ahead + " " + number + behind), 1);
            }
            for (long number : new long[] {most + 1, most + 2, most * 10, most + (1L << 32), 1L << 32, (1L << 32) + 1}) {
                t.dueWrong(code(ahead + " ~" + number + behind));
            }
            t.dueWrong("class A { method f() none { " + ahead + " ~" + (most + 1));
        }
    }

    private void minus() {
        t.sentence("- and what is behind it are two TOKENS;");
        for (String minus : new String[] {"-", "- ", "-\n", "-\t\r", "-#1\n"}) {
            t.dueRight(code("push " + minus + "5;"), 1);
            t.dueRight(code("inc 0 " + minus + "5;"), 1);
            t.dueWrong(code("push " + minus + "~-5;"));
            t.dueWrong(code("push " + minus + "~;"));
            t.dueWrong(code("push " + minus + "~x;"));
            t.dueWrong(code("inc 0 " + minus + "~-5;"));
            t.dueWrong(code("inc ~" + minus + "5 5;"));
            for (String word : new String[] {"load", "store", "source", "sink", "clean", "mark"}) {
                t.dueWrong(code(word + " ~" + minus + "0;"));
            }
        }
        t.dueRight(code("push-5;"), 1);
        t.dueRight(code("inc 0-5;"), 1);
        t.dueWrong(code("push 5~-;"));
        t.dueWrong(code("push 5~-5;"));
        t.dueWrong(code("~-5;"));
    }

    private void minusZero() {
        t.sentence("-0 is 0;");
        t.dueInt("push -0; ret;", 0, 0);
        t.dueInt("push - 0; ret;", 0, 0);
        t.dueInt("push 7; store 0; inc 0 -0; load 0; ret;", 7, 0);
        t.dueInt("push -1; ret;", -1, 0);
        t.dueInt("push 7; store 0; inc 0 -1; load 0; ret;", 6, 0);
    }

    private void leastNumber() {
        t.sentence("2147483648 is WRONG but behind push - .");
        t.dueInt("push -2147483648; ret;", Integer.MIN_VALUE, 0);
        t.dueInt("push - 2147483648; ret;", Integer.MIN_VALUE, 0);
        t.dueInt("push -2147483647; ret;", -2147483647, 0);
        t.dueInt("push 2147483647; ret;", Integer.MAX_VALUE, 0);
        t.dueWrong(code("push -~2147483649;"));
        for (String ahead : new String[] {"push", "load", "store", "inc", "inc 3", "inc 3 -", "source", "sink", "clean",
            "mark"}) {
            t.dueWrong(code(ahead + " ~2147483648;"));
        }
        t.dueWrong("~2147483648");
        t.dueWrong("class ~2147483648 { }");
    }
}
