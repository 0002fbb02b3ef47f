import java.io.IOException;
import java.lang.reflect.Method;
import java.lang.reflect.Modifier;
import java.nio.file.Files;
import java.nio.file.Path;
import java.util.ArrayList;
import java.util.Comparator;
import java.util.List;
import java.util.Map;
import java.util.Set;
import java.util.TreeMap;
import java.util.TreeSet;
import java.util.regex.Matcher;
import java.util.regex.Pattern;
import java.util.stream.Stream;

/** README.md holds: its program prints what it says, its commands run, its calls refuse what it says. */
public final class ReadmeTest {
    private static final Path SOURCES = Path.of("src/main/java");
    private static final Path TESTS = Path.of("src/test/java");
    private static final Path SHARED_TESTS = Path.of("../shared/tests");
    private static final int AS_TOLD = 1000000000;
    private static final int NONE = -9;
    private static final int[] EDGES = {Integer.MIN_VALUE, Integer.MAX_VALUE, -100, -61, -1, 0, 9, 10, 20, 24, 30, 52,
        60, 61, 100, 200, 599, 600, 2001, 4096, 10001};
    private static final Check check = new Check();
    private static final Check.Dice dice = new Check.Dice(33);

    private final String page;
    private final Map<String, Method> calls = new TreeMap<>();
    private final Map<String, Set<Integer>> seen = new TreeMap<>();

    private ReadmeTest(String page) {
        this.page = page;
        for (Method call : GrassBridge.class.getDeclaredMethods()) {
            if (Modifier.isPublic(call.getModifiers())) {
                calls.put(call.getName(), call);
                seen.put(call.getName(), new TreeSet<>());
            }
        }
    }

    public static void main(String[] args) throws Exception {
        ReadmeTest test = new ReadmeTest(Files.readString(Path.of("README.md")));
        test.program();
        test.refusals();
        test.testsAreNamed();
        check.end();
    }

    private List<String> blocks(String language) {
        List<String> found = new ArrayList<>();
        Matcher block = Pattern.compile("```" + language + "\n(.*?)```", Pattern.DOTALL).matcher(page);
        while (block.find()) {
            found.add(block.group(1));
        }
        return found;
    }

    /** In a copy of the project, as the commands leave what they compile. */
    private void program() throws Exception {
        Path room = Files.createTempDirectory("readme");
        try {
            Path project = room.resolve("main");
            copy(SOURCES, project.resolve(SOURCES));
            copy(TESTS, project.resolve(TESTS));
            copy(SHARED_TESTS, room.resolve("shared/tests"));
            check.due("programs", blocks("java").size(), 1);
            Files.writeString(project.resolve("OneYear.java"), blocks("java").get(0));
            List<String> commands = blocks("sh");
            check.due("blocks of commands", commands.size(), 2);
            check.sentence("README: and prints");
            check.due("OneYear", run(project, commands.get(0)), blocks("text").get(0));
            check.sentence("README: One of them alone");
            String printed = run(project, commands.get(1));
            check.due("of the project", printed.contains(" answers looked at, 0 wrong\n") ? 1 : 0, 1);
            check.due("of ../shared/tests", printed.contains("all answers are as due\n") ? 1 : 0, 1);
        } finally {
            remove(room);
        }
    }

    private static void copy(Path from, Path to) throws IOException {
        Files.createDirectories(to);
        try (Stream<Path> files = Files.list(from)) {
            for (Path file : files.toList()) {
                Files.copy(file, to.resolve(file.getFileName()));
            }
        }
    }

    private static void remove(Path room) throws IOException {
        try (Stream<Path> files = Files.walk(room)) {
            for (Path file : files.sorted(Comparator.reverseOrder()).toList()) {
                Files.delete(file);
            }
        }
    }

    private static String run(Path where, String commands) throws Exception {
        Process shell = new ProcessBuilder("sh", "-e", "-c", commands).directory(where.toFile())
                .redirectErrorStream(true).start();
        String printed = new String(shell.getInputStream().readAllBytes());
        check.due("exit code of " + commands + printed, shell.waitFor(), 0);
        return printed;
    }

    /** The table of calls, against the answers of calls with any arguments in many states. */
    private void refusals() throws Exception {
        for (int turn = 0; turn < 60; turn++) {
            for (int state = 0; state < 8; state++) {
                anyCalls(made(state));
            }
        }
        Set<String> told = new TreeSet<>();
        Matcher row = Pattern.compile("^\\| `(\\w+)\\((.*?)\\)` \\|[^|]*\\|([^|]*)\\|([^|]*)\\|$", Pattern.MULTILINE)
                .matcher(page);
        while (row.find()) {
            String name = row.group(1);
            check.sentence("README: the row of " + name);
            check.due("told twice", told.add(name) ? 1 : 0, 1);
            Set<Integer> due = numbersOf(row.group(3));
            if (!row.group(4).isBlank()) {
                due.add(NONE);
            }
            int parameters = row.group(2).isEmpty() ? 0 : row.group(2).split(",").length;
            Method call = calls.get(name);
            check.due("parameters", call == null ? -1 : call.getParameterCount(), parameters);
            check.due("refusals and -9", String.valueOf(seen.get(name)), due.toString());
        }
        check.sentence("README: Calls");
        check.due("all of them", told.toString(), calls.keySet().toString());
    }

    private static Set<Integer> numbersOf(String cell) {
        Set<Integer> numbers = new TreeSet<>();
        for (String part : cell.split(";")) {
            Matcher number = Pattern.compile("^ *(-\\d)\\b").matcher(part);
            if (number.find()) {
                numbers.add(Integer.parseInt(number.group(1)));
            }
        }
        return numbers;
    }

    private static GrassBridge made(int state) {
        switch (state) {
            case 0: return Check.houses(24);
            case 1: return Check.ropes(200);
            case 2: return Check.older(Check.hung(0b000011, 9), 60);
            case 3: return Check.hung(0b111111, 9, 1);
            case 4: return Check.hung(0b111111, 9);
            case 5: return told(12);
            case 6: return told(2);
            default:
                GrassBridge x = Check.hung(0, 9);
                x.hang(Check.great(x, 0), dice.below(6));
                Check.great(x, 0);
                Check.middle(x, 0);
                x.small(0, 0, 0);
                return x;
        }
    }

    private static GrassBridge told(int steps) {
        GrassBridge x = Check.houses(3);
        for (int i = 0; i < steps; i++) {
            x.step(0, i % 6, 1, 1, 0);
        }
        for (int i = 0; i < 30; i++) {
            x.person(-1, 40);
        }
        return x;
    }

    private void anyCalls(GrassBridge x) throws Exception {
        List<String> names = new ArrayList<>(calls.keySet());
        for (int i = 0; i < 250; i++) {
            String name = names.get(dice.below(names.size()));
            Method call = calls.get(name);
            Object[] args = new Object[call.getParameterCount()];
            for (int j = 0; j < args.length; j++) {
                boolean flag = call.getParameterTypes()[j] == boolean.class;
                args[j] = flag ? (Object) (dice.below(2) == 0) : (Object) number();
            }
            boolean asTold = name.equals("rain") || name.equals("owed");
            int answer = (Integer) call.invoke(x, args);
            int refusal = asTold ? AS_TOLD - answer : answer;
            if (refusal < 0 && (!asTold || refusal > -10)) {
                seen.get(name).add(refusal);
            }
        }
    }

    private static int number() {
        int below = dice.below(3) == 0 ? 70 : 6;
        return dice.below(8) == 0 ? EDGES[dice.below(EDGES.length)] : dice.below(1 + dice.below(below));
    }

    private void testsAreNamed() throws IOException {
        check.sentence("README: Tests");
        check.due(".ci/run is there", Files.isExecutable(Path.of(".ci/run")) && page.contains("\n    .ci/run\n") ? 1 : 0, 1);
        Set<String> named = new TreeSet<>();
        Matcher row = Pattern.compile("^\\| (\\w+Test) \\|", Pattern.MULTILINE).matcher(page);
        while (row.find()) {
            named.add(row.group(1) + ".java");
        }
        Set<String> tests = new TreeSet<>();
        try (Stream<Path> files = Files.list(TESTS)) {
            for (Path file : files.toList()) {
                String name = file.getFileName().toString();
                if (name.endsWith("Test.java")) {
                    tests.add(name);
                } else {
                    check.due("what tests share: " + name, page.contains("`" + name + "`") ? 1 : 0, 1);
                }
            }
        }
        check.due("all of them", named.toString(), tests.toString());
    }
}
