import com.sun.management.ThreadMXBean;
import java.io.IOException;
import java.lang.management.ManagementFactory;
import java.lang.reflect.Method;
import java.lang.reflect.Modifier;
import java.nio.charset.StandardCharsets;
import java.nio.file.Files;
import java.nio.file.Path;
import java.util.Comparator;
import java.util.Set;
import java.util.TreeSet;
import java.util.regex.Matcher;
import java.util.regex.Pattern;
import java.util.stream.Collectors;
import java.util.stream.Stream;

/** That what README.md says holds: its example, and all that its tables name. */
public final class ReadmeTest {
    private static final Tester T = new Tester();
    private static final String TEXT = "class A { field x ref; method f() none { x: push 3; refs; pop; new A; pop; source 1;"
        + " sink 1; push 1; push 0; div; pop; goto x; y: pop; goto x; try x y y Fault; } method g() none { call A g; ret; } }";

    public static void main(String[] args) throws IOException, InterruptedException, IllegalAccessException {
        String readme = Files.readString(Path.of("README.md"), StandardCharsets.UTF_8);
        example(readme);
        calls(readme);
        classes(readme);
        tests(readme);
        room(readme);
        T.finish();
    }

    /** The first block of this language. */
    private static String block(String readme, String language) {
        Matcher m = Pattern.compile("(?s)```" + language + "\n(.*?)```").matcher(readme);
        return m.find() ? m.group(1) : "";
    }

    /** As README.md says that it is compiled and run, but for where its file and the classes are. */
    private static void example(String readme) throws IOException, InterruptedException {
        Path room = Files.createTempDirectory("readme");
        Path file = Files.writeString(room.resolve("Example.java"), block(readme, "java"), StandardCharsets.UTF_8);
        String out = room.resolve("out").toString();
        printedBy("javac", "-Xlint:all", "-Werror", "-d", out, "src/main/java/TaintHouse.java", file.toString());
        String printed = printedBy("java", "-cp", out, "Example");
        T.due("whether the example prints what is told, but: " + printed, printed.equals(block(readme, "text")), true);
        remove(room);
    }

    private static String printedBy(String... command) throws IOException, InterruptedException {
        Process process = new ProcessBuilder(command).redirectError(ProcessBuilder.Redirect.INHERIT).start();
        String printed = new String(process.getInputStream().readAllBytes(), StandardCharsets.UTF_8);
        T.due("exit code of " + command[0], process.waitFor(), 0);
        return printed;
    }

    private static void remove(Path room) throws IOException {
        try (Stream<Path> all = Files.walk(room)) {
            for (Path one : all.sorted(Comparator.reverseOrder()).toList()) {
                Files.delete(one);
            }
        }
    }

    /** What stands as code in the first column of the table with this heading. */
    private static Set<String> named(String readme, String heading) {
        Set<String> names = new TreeSet<>();
        int from = readme.indexOf("| " + heading + " |");
        T.due("whether there is a table of " + heading, from >= 0, true);
        for (String line : readme.substring(Math.max(from, 0)).split("\n")) {
            if (!line.startsWith("|")) {
                break;
            }
            Matcher m = Pattern.compile("`(\\w+)`").matcher(line.split("\\|")[1]);
            while (m.find()) {
                names.add(m.group(1));
            }
        }
        return names;
    }

    private static void dueNames(String what, Set<String> got, Set<String> want) {
        T.due("whether the " + what + " are " + want + ", but README.md names " + got, got.equals(want), true);
    }

    private static void calls(String readme) {
        Set<String> want = new TreeSet<>();
        for (Method m : TaintHouse.class.getDeclaredMethods()) {
            if (Modifier.isPublic(m.getModifiers())) {
                want.add(m.getName());
            }
        }
        dueNames("calls", named(readme, "call"), want);
    }

    private static void classes(String readme) {
        Set<String> want = new TreeSet<>();
        for (Class<?> c : TaintHouse.class.getDeclaredClasses()) {
            want.add(c.getSimpleName());
        }
        dueNames("classes inside", named(readme, "class inside"), want);
    }

    private static void tests(String readme) throws IOException {
        try (Stream<Path> files = Files.list(Path.of("src/test/java"))) {
            Set<String> want = files.map(f -> f.getFileName().toString()).filter(f -> f.endsWith("Test.java"))
                .map(f -> f.replace(".java", "")).collect(Collectors.toCollection(TreeSet::new));
            dueNames("tests", named(readme, "test"), want);
        }
        T.due("whether .ci/run can be run", Files.isExecutable(Path.of(".ci/run")), true);
    }

    private static void room(String readme) throws IllegalAccessException {
        Matcher m = Pattern.compile("some (\\d+),(\\d+)\\s+fields and elements").matcher(readme);
        T.due("whether the room of an object is told", m.find(), true);
        long told = Long.parseLong(m.group(1) + m.group(2));
        long held = Room.held(new TaintHouse())[1];
        T.due("whether an object has some " + told + " fields and elements, but " + held, Math.abs(told - held) < 1000, true);
        if (ManagementFactory.getThreadMXBean() instanceof ThreadMXBean threads) {
            T.due("bytes that calls made", bytesMade(threads), 0);
        }
    }

    private static long bytesMade(ThreadMXBean threads) {
        TaintHouse house = new TaintHouse();
        // The first round is not looked at, since the machine loads and links what it calls.
        callAll(house);
        long start = threads.getCurrentThreadAllocatedBytes();
        long asked = threads.getCurrentThreadAllocatedBytes();
        callAll(house);
        long end = threads.getCurrentThreadAllocatedBytes();
        return end - asked - (asked - start);
    }

    private static void callAll(TaintHouse house) {
        Tester.read(house, TEXT);
        house.run(0);
        house.run(1);
        for (int i = -1; i < 9; i++) {
            house.argument(i, i, i);
            house.input(i, i);
            house.policy(i, i);
            house.flows(i);
            house.result(i);
            house.event(0, i);
            house.object(0, i);
            house.slot(0, 0, i);
            house.stat(0, i);
            house.type(7, i);
            house.method(0, i);
            house.count(i);
        }
        Tester.read(house, "class A { } class A { }");
        Tester.read(house, "class A { method f() none { add; } }");
        Tester.read(house, "class A {");
        house.place();
    }
}
