import java.io.IOException;
import java.lang.reflect.Constructor;
import java.lang.reflect.Field;
import java.lang.reflect.Method;
import java.lang.reflect.Modifier;
import java.nio.charset.StandardCharsets;
import java.nio.file.Files;
import java.nio.file.Path;
import java.util.Arrays;
import java.util.Set;
import java.util.TreeSet;
import java.util.regex.Matcher;
import java.util.regex.Pattern;

/** The public face, and those rules of LANGUAGE.md that can be seen from outside. */
public final class LanguageTest {
    private static final Tester T = new Tester();

    public static void main(String[] args) throws IOException, IllegalAccessException {
        face();
        insides();
        words();
        room();
        T.finish();
    }

    private static void face() {
        Set<String> want = new TreeSet<>(Set.of("boolean feed 5", "boolean end 1", "int text 0", "int place 0",
            "int flows 1", "int policy 2", "int input 2", "int argument 3", "int run 1", "int result 1", "int event 2",
            "int object 2", "int slot 3", "int stat 2", "int type 2", "int method 2", "int count 1"));
        Set<String> got = new TreeSet<>();
        for (Method m : TaintHouse.class.getDeclaredMethods()) {
            if (!Modifier.isPrivate(m.getModifiers())) {
                got.add(m.getReturnType() + " " + m.getName() + " " + m.getParameterCount());
                T.due(m + " is public, and no more", m.getModifiers(), Modifier.PUBLIC);
                boolean ints = Arrays.stream(m.getParameterTypes()).allMatch(p -> p == int.class);
                T.due("parameters of " + m + " are ints", ints, true);
            }
        }
        T.due("the face " + got, got.equals(want), true);
        Constructor<?>[] constructors = TaintHouse.class.getDeclaredConstructors();
        T.due("constructors", constructors.length, 1);
        T.due("a public constructor", Modifier.isPublic(constructors[0].getModifiers()), true);
        T.due("the class is public and final", TaintHouse.class.getModifiers(), Modifier.PUBLIC | Modifier.FINAL);
        for (Field f : TaintHouse.class.getDeclaredFields()) {
            T.due(f + " is private", Modifier.isPrivate(f.getModifiers()), !f.getName().equals("NONE"));
        }
    }

    private static void insides() {
        Class<?>[] inside = TaintHouse.class.getDeclaredClasses();
        T.due("classes are 12 at most", inside.length + 1 <= 12, true);
        Set<String> open = new TreeSet<>();
        for (Method m : TaintHouse.class.getDeclaredMethods()) {
            if (Modifier.isPublic(m.getModifiers())) {
                open.add(m.getName());
            }
        }
        for (Class<?> c : inside) {
            T.due(c + " is static", Modifier.isStatic(c.getModifiers()), true);
            T.due(c + " is not public", Modifier.isPublic(c.getModifiers()), false);
            for (Field f : c.getDeclaredFields()) {
                boolean changing = Modifier.isStatic(f.getModifiers()) && !Modifier.isFinal(f.getModifiers());
                T.due(f + " is a changing static", changing, false);
            }
            for (Method m : c.getDeclaredMethods()) {
                T.due(m + " bears the name of a public one", open.contains(m.getName()), false);
                T.due(m + " has seven parameters at most", m.getParameterCount() <= 7, true);
            }
        }
    }

    private static void words() throws IOException {
        String source = Files.readString(Path.of("src/main/java/TaintHouse.java"), StandardCharsets.US_ASCII);
        String bare = source.replaceAll("(?s)/\\*.*?\\*/", "").replaceAll("//[^\n]*", "")
            .replaceAll("\"[^\"\n]*\"", "TEXT").replaceAll("'.'", "SIGN");
        String[] refused = {"\\bthrow\\b", "\\btry\\b", "\\bcatch\\b", "\\bfinally\\b", "\\bsynchronized\\b",
            "\\bassert\\b", "->", "::", "\\bInteger\\b", "\\bObject\\b", "\\bhashCode\\b", "\\btoString\\b",
            "TEXT \\+", "\\+ TEXT", "\\bdouble\\b", "\\bfloat\\b", "\\bstatic \\{", "\\bimport (?!java.util.Arrays;)",
            "\\bpackage\\b", "\\bprotected\\b", "\\bString\\[\\]", "\\[\\]\\["};
        for (String word : refused) {
            Matcher m = Pattern.compile(word).matcher(bare);
            T.due("the source has " + word, m.find(), false);
        }
        int start = 0;
        int line = 0;
        for (String text : bare.split("\n", -1)) {
            line++;
            if (text.matches(" {4}( {4})?\\S.*\\) \\{") && !text.contains(" class ")) {
                start = line;
            } else if (text.matches(" {4}( {4})?\\}")) {
                T.due("the method up to line " + line + " is short", line - start <= 60, true);
                start = line;
            }
        }
    }

    /** What an object holds stays the same, however it is used, and so small that many fit in a room. */
    private static void room() throws IllegalAccessException {
        TaintHouse house = new TaintHouse();
        long[] before = Room.held(house);
        Tester.read(house, "class A { field x ref; method f() none { x: push 3; refs; pop; new A; pop; source 1; sink 1;"
            + " goto x; } method g() none { call A g; ret; } }");
        house.run(0);
        house.run(1);
        Tester.read(house, "class A { } class A { }");
        Tester.read(house, "class A");
        long[] after = Room.held(house);
        T.due("calls keep no more objects and arrays", after[0] <= before[0], true);
        T.due("objects and arrays are few", before[0] < 300, true);
        T.due("fields and elements " + before[1], before[1] < 60000, true);
    }
}
