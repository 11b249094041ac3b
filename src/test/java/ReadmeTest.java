import java.io.IOException;
import java.lang.reflect.Method;
import java.lang.reflect.Modifier;
import java.nio.file.Files;
import java.nio.file.Path;
import java.util.ArrayList;
import java.util.Arrays;
import java.util.HashMap;
import java.util.List;
import java.util.Map;
import java.util.Set;
import java.util.TreeSet;
import java.util.regex.Matcher;
import java.util.regex.Pattern;
import java.util.stream.Stream;

/** What README.md says: the calls that it shows answer so, its tables are whole, its commands run the tests. */
public final class ReadmeTest {
    private static final Pattern NEW = Pattern.compile("LinkStation x = new LinkStation\\(\\);");
    private static final Pattern CALL =
        Pattern.compile("(?:int (\\w+) = )?x\\.(\\w+)\\(([\\w, -]*)\\); +// (-?\\d+)(?::? .*)?");
    private static final int LAST_OP = 14;
    private static int wrong = 0;

    private LinkStation station = null;
    private final Map<String, Integer> names = new HashMap<>();
    private final Set<String> shown = new TreeSet<>();

    public static void main(String[] args) throws Exception {
        String text = Files.readString(Path.of("README.md"));
        ReadmeTest test = new ReadmeTest();
        test.lookAtExamples(text);
        lookAtCallTable(text);
        lookAtStepTable(text);
        lookAtTestList(text);
        lookAtCommands(text);
        if (wrong != 0) {
            System.exit(1);
        }
        System.out.println("README.md says what is so");
    }

    private static void expect(boolean holds, String what) {
        if (!holds) {
            wrong++;
            System.out.println("README.md: not so: " + what);
        }
    }

    private static List<String> blocksOf(String text, String language) {
        List<String> blocks = new ArrayList<>();
        Matcher block = Pattern.compile("(?s)```" + language + "\n(.*?)```").matcher(text);
        while (block.find()) {
            blocks.add(block.group(1));
        }
        return blocks;
    }

    private static Set<String> facesNames() {
        Set<String> calls = new TreeSet<>();
        for (Method method : LinkStation.class.getDeclaredMethods()) {
            if (Modifier.isPublic(method.getModifiers())) {
                calls.add(method.getName());
            }
        }
        return calls;
    }

    /** Every line of an example is a new station or a call with its answer, so none goes unlooked at. */
    private void lookAtExamples(String text) throws ReflectiveOperationException {
        for (String block : blocksOf(text, "java")) {
            station = null;
            names.clear();
            for (String line : block.split("\n")) {
                Matcher call = CALL.matcher(line);
                if (NEW.matcher(line).matches()) {
                    station = new LinkStation();
                } else if (station != null && call.matches()) {
                    makeCall(call, line);
                } else {
                    expect(false, "a line of an example is a new station or a call with its answer: " + line);
                }
            }
        }
        expect(shown.equals(facesNames()), "the examples show every call of the face: " + shown);
    }

    private void makeCall(Matcher call, String line) throws ReflectiveOperationException {
        List<Integer> values = new ArrayList<>();
        for (String argument : call.group(3).isEmpty() ? new String[0] : call.group(3).split(", ")) {
            expect(names.containsKey(argument) || argument.matches("-?\\d+"), argument + " is known in: " + line);
            Integer named = names.get(argument);
            values.add(named != null ? named : Integer.valueOf(argument));
        }
        Class<?>[] types = new Class<?>[values.size()];
        Arrays.fill(types, int.class);
        Object answer = LinkStation.class.getMethod(call.group(2), types).invoke(station, values.toArray());
        expect(answer.equals(Integer.valueOf(call.group(4))), "it answers " + answer + ": " + line);
        shown.add(call.group(2));
        if (call.group(1) != null) {
            names.put(call.group(1), (Integer) answer);
        }
    }

    private static void lookAtCallTable(String text) {
        Set<String> told = new TreeSet<>();
        Matcher row = Pattern.compile("(?m)^\\| `(\\w+)\\(([^)]*)\\)` \\|").matcher(text);
        while (row.find()) {
            told.add(row.group(1));
            int parameters = row.group(2).isEmpty() ? 0 : row.group(2).split(", ").length;
            for (Method method : LinkStation.class.getDeclaredMethods()) {
                boolean fits = !method.getName().equals(row.group(1)) || method.getParameterCount() == parameters;
                expect(fits, row.group(1) + " has " + parameters + " parameters");
            }
        }
        expect(told.equals(facesNames()), "the table tells of every call of the face: " + told);
    }

    private static void lookAtStepTable(String text) {
        LinkStation x = new LinkStation();
        int m = x.module();
        int next = 0;
        Matcher row = Pattern.compile("(?m)^\\| (\\d+(?:, \\d+)*) \\|").matcher(text);
        while (row.find()) {
            for (String op : row.group(1).split(", ")) {
                expect(Integer.parseInt(op) == next, "step " + next + " follows in the table");
                expect(x.put(m, next, 0, 0, 0) == next, "there is a step " + next);
                next++;
            }
        }
        expect(next == LAST_OP + 1, "the table tells of all steps");
        expect(x.put(m, next, 0, 0, 0) == LinkStation.NONE, "there is no step behind the table's last");
    }

    private static void lookAtTestList(String text) throws IOException {
        Set<String> told = new TreeSet<>();
        Matcher item = Pattern.compile("(?m)^- `(\\w+Test)`:").matcher(text);
        while (item.find()) {
            told.add(item.group(1));
        }
        Set<String> there = new TreeSet<>();
        try (Stream<Path> files = Files.list(Path.of("src/test/java"))) {
            files.forEach(file -> there.add(file.getFileName().toString().replace(".java", "")));
        }
        expect(told.equals(there), "the tests are " + told + ", there are " + there);
    }

    private static void lookAtCommands(String text) throws IOException, InterruptedException {
        List<String> blocks = blocksOf(text, "sh");
        expect(blocks.size() == 2, "it tells how to run all tests, and how to run one");
        Path all = Path.of(blocks.get(0).trim());
        expect(Files.isRegularFile(all) && Files.isExecutable(all), all + " can be run");
        Path build = Files.createTempDirectory("readme");
        String one = blocks.get(blocks.size() - 1);
        String command = "set -e\n" + one.replaceAll("\\bbuild\\b", Matcher.quoteReplacement(build.toString()));
        Process process = new ProcessBuilder("sh", "-c", command).redirectErrorStream(true).start();
        String printed = new String(process.getInputStream().readAllBytes());
        expect(process.waitFor() == 0, "one test is run so: " + one + printed);
        expect(printed.contains("every promise holds"), "it is run, and passes: " + printed);
        removeAll(build);
    }

    private static void removeAll(Path directory) throws IOException {
        try (Stream<Path> files = Files.list(directory)) {
            for (Path file : files.toList()) {
                Files.delete(file);
            }
        }
        Files.delete(directory);
    }
}
