import java.io.IOException;
import java.lang.reflect.Method;
import java.lang.reflect.Modifier;
import java.nio.file.Files;
import java.nio.file.Path;
import java.util.ArrayList;
import java.util.Arrays;
import java.util.List;
import java.util.Map;
import java.util.TreeMap;
import java.util.TreeSet;
import java.util.regex.Matcher;
import java.util.regex.Pattern;
import java.util.stream.Stream;

/** What README.md says of how to use the class and how to run its tests holds. It is run from the project's folder. */
public final class ReadmeTest {
    private static final Pattern CALL = Pattern.compile("x\\.(\\w+)\\(([^()]*)\\);\\s*// (-?\\w+).*");
    private static final Pattern SIGNATURE = Pattern.compile("`(\\w+)\\(([^()]*)\\)`");
    private static final Pattern TEST_NAME = Pattern.compile("\\b\\w+Test\\b");
    private static final Pattern FAULT = Pattern.compile("\\b(NONE|EXISTS|FULL)\\b");
    private static final Path SHARED_TEST = Path.of("../shared/tests/StripeFilesRuns.java");

    private static List<String> lines;

    public static void main(String[] args) throws Exception {
        lines = Files.readAllLines(Path.of("README.md"));
        exampleAnswersAsItsCommentsSay();
        callsAreThoseOfTheFace();
        answersHaveTheirValues();
        operationsAnswerWhatTheTableSays();
        limitsAreThoseOfTheTable();
        testsAreThoseOfTheTable();
        commandsWork();
        Due.finish();
    }

    private static void exampleAnswersAsItsCommentsSay() throws Exception {
        Due.is("examples", blocks("java").size(), 1);
        StripeFiles x = new StripeFiles();
        TreeSet<String> used = new TreeSet<>();
        for (String line : blocks("java").get(0)) {
            Matcher call = CALL.matcher(line.trim());
            if (call.matches()) {
                int[] numbers = numbers(call.group(2));
                Due.is("example: " + line.trim(), answer(x, call.group(1), numbers), value(call.group(3)));
                used.add(call.group(1));
            } else {
                Due.is("answers told in \"" + line.trim() + "\"", line.trim().startsWith("x.") ? 1 : 0, 0);
            }
        }
        Due.same("calls of the example", used.toString(), face().keySet().toString());
    }

    private static void callsAreThoseOfTheFace() {
        Map<String, Integer> told = new TreeMap<>();
        for (String[] row : table("call")) {
            Matcher signature = SIGNATURE.matcher(row[0]);
            Due.is("calls in " + row[0], signature.matches() ? 1 : 0, 1);
            told.put(signature.group(1), signature.group(2).split(",").length);
        }
        Due.same("calls", told.toString(), face().toString());
    }

    private static void answersHaveTheirValues() throws Exception {
        TreeSet<String> told = new TreeSet<>();
        for (String[] row : table("answer")) {
            Due.is(row[0], Integer.parseInt(row[1]), value(row[0]));
            told.add(row[0]);
        }
        Due.same("answers", told.toString(), "[EXISTS, FULL, NONE, REFUSED]");
    }

    private static void operationsAnswerWhatTheTableSays() throws Exception {
        List<String[]> rows = table("kind");
        Due.is("operations", rows.size(), 10);
        for (int kind = 0; kind < rows.size(); kind++) {
            String[] row = rows.get(kind);
            Due.is("kind of " + row[1], Integer.parseInt(row[0]), kind);
            TreeSet<String> told = new TreeSet<>();
            Matcher fault = FAULT.matcher(row[3]);
            while (fault.find()) {
                told.add(fault.group());
            }
            Due.same("faults of " + row[1], faultsSeen(kind).toString(), told.toString());
        }
        String[] names = {"MAKE", "WRITE", "APPEND", "CUT", "READ", "REMOVE", "RENAME", "SWAP", "SIZE", "NEXT"};
        for (int kind = 0; kind < names.length; kind++) {
            Due.same("operation " + kind, rows.get(kind)[1].split(" ")[0], names[kind]);
        }
    }

    /** What this kind answers below 0 without files, with all the files there can be, and with all their bytes. */
    private static TreeSet<String> faultsSeen(int kind) throws Exception {
        StripeFiles without = new StripeFiles();
        StripeFiles most = new StripeFiles();
        Due.makeMany(most, 48);
        StripeFiles filled = new StripeFiles();
        Due.leaveRoom(filled, 10);
        Due.write(filled, "rest", 0, Due.many(10, 'x'));
        TreeSet<String> seen = new TreeSet<>();
        for (StripeFiles x : List.of(without, most, filled)) {
            Due.name(x, 0, x == filled ? "f3" : "new");
            Due.name(x, 1, "other");
            Due.tape(x, Due.many(20, 'x'));
            int got = x.run(kind, kind == 4 ? 0 : 8192, 2048);
            for (String name : List.of("REFUSED", "NONE", "EXISTS", "FULL")) {
                if (got == value(name)) {
                    seen.add(name);
                }
            }
        }
        return seen;
    }

    private static void limitsAreThoseOfTheTable() {
        Map<String, Integer> most = new TreeMap<>();
        for (String[] row : table("limit")) {
            most.put(row[0], Integer.parseInt(row[1]));
        }
        Due.is("limits", most.size(), 6);
        limitOfTheTape(most.getOrDefault("bytes on the tape", 0));
        limitOfNames(most.getOrDefault("bytes of a name", 0));
        limitOfFiles(most.getOrDefault("files", 0));
        limitOfOneFile(most.getOrDefault("bytes of a file", 0));
        limitOfAllFiles(most.getOrDefault("bytes of all files", 0), most.getOrDefault("bytes of a file", 0));
        limitOfRead(most.getOrDefault("bytes told by one READ", 0));
    }

    private static void limitOfTheTape(int most) {
        StripeFiles x = new StripeFiles();
        Due.tape(x, Due.many(most - 19, 1));
        Due.is("feed beyond the limit", x.feed(0, 0, 0, 0, 0), StripeFiles.FULL);
        Due.is("end", x.end(most - 20), most - 20);
        Due.is("feed up to the limit", x.feed(0, 0, 0, 0, 0), most);
    }

    private static void limitOfNames(int most) {
        StripeFiles x = new StripeFiles();
        Due.name(x, 0, Due.many(most, 'n'));
        Due.tape(x, Due.many(most + 1, 'n'));
        Due.is("name beyond the limit", x.name(0), StripeFiles.REFUSED);
    }

    private static void limitOfFiles(int most) {
        StripeFiles x = new StripeFiles();
        Due.makeMany(x, most);
        Due.name(x, 0, "new");
        Due.is("MAKE beyond the limit", x.run(0, 0, 0), StripeFiles.FULL);
    }

    private static void limitOfOneFile(int most) {
        StripeFiles x = new StripeFiles();
        Due.write(x, "f", most - 1, Due.many(1, 'x'));
        Due.tape(x, Due.many(1, 'x'));
        Due.is("WRITE beyond the limit", x.run(1, most, 0), StripeFiles.FULL);
    }

    private static void limitOfAllFiles(int most, int mostOfOne) {
        StripeFiles x = new StripeFiles();
        for (int k = 0; k * mostOfOne < most; k++) {
            Due.make(x, "f" + k);
            Due.is("CUT", x.run(3, Math.min(mostOfOne, most - k * mostOfOne), 0), 0);
        }
        Due.is("bytes of all files", x.count(1), most);
        Due.name(x, 0, "new");
        Due.tape(x, Due.many(1, 'x'));
        Due.is("APPEND beyond the limit", x.run(2, 0, 0), StripeFiles.FULL);
    }

    private static void limitOfRead(int most) {
        StripeFiles x = new StripeFiles();
        Due.make(x, "f");
        Due.is("CUT", x.run(3, 8192, 0), 0);
        Due.is("READ up to the limit", x.run(4, 0, most), most);
        Due.is("READ beyond the limit", x.run(4, 0, most + 1), StripeFiles.REFUSED);
    }

    private static void testsAreThoseOfTheTable() throws IOException {
        TreeSet<String> told = new TreeSet<>();
        for (String[] row : table("promise")) {
            Matcher name = TEST_NAME.matcher(String.join(" ", row));
            while (name.find()) {
                told.add(name.group());
            }
        }
        TreeSet<String> there = new TreeSet<>();
        for (Path file : walk(Path.of("src/test/java"))) {
            String name = file.getFileName().toString();
            if (name.endsWith("Test.java")) {
                there.add(name.substring(0, name.length() - ".java".length()));
            }
        }
        Due.same("tests", told.toString(), there.toString());
    }

    /** Runs each block of commands in a copy of the project that has the example beside it. */
    private static void commandsWork() throws Exception {
        Path room = Files.createTempDirectory("readme");
        Path project = Files.createDirectory(room.resolve("project"));
        for (Path from : walk(Path.of("src"))) {
            Files.createDirectories(project.resolve(from).getParent());
            Files.copy(from, project.resolve(from));
        }
        Files.write(project.resolve("Example.java"), blocks("java").get(0));
        Files.createSymbolicLink(room.resolve("shared"), Path.of("../shared").toRealPath());
        int run = 0;
        for (List<String> block : blocks("sh")) {
            String commands = String.join("\n", block);
            if (commands.equals(".ci/run")) {
                // It runs this test, so it is only looked at here.
                Due.is(".ci/run can be run", Files.isExecutable(Path.of(".ci/run")) ? 1 : 0, 1);
            } else if (Files.exists(SHARED_TEST) || !commands.contains(SHARED_TEST.toString())) {
                runCommands(commands, project);
                run++;
            }
        }
        Due.is("blocks of commands that were run", run, Files.exists(SHARED_TEST) ? 3 : 2);
        removeAll(room);
    }

    private static void runCommands(String commands, Path project) throws Exception {
        Process process = new ProcessBuilder("sh", "-e", "-c", commands)
            .directory(project.toFile()).redirectError(ProcessBuilder.Redirect.INHERIT).start();
        String printed = new String(process.getInputStream().readAllBytes()).trim();
        Due.is(commands + " (which printed: " + printed + ")", process.waitFor(), 0);
        if (commands.endsWith("Example")) {
            Due.same("what the example prints", printed, printedByExample());
        }
    }

    private static String printedByExample() {
        for (String line : blocks("java").get(0)) {
            if (line.contains("// prints ")) {
                return line.replaceAll(".*// prints (\\w+).*", "$1");
            }
        }
        return "";
    }

    private static void removeAll(Path room) throws IOException {
        Files.delete(room.resolve("shared"));
        try (Stream<Path> all = Files.walk(room)) {
            for (Path gone : all.sorted((one, other) -> other.compareTo(one)).toList()) {
                Files.delete(gone);
            }
        }
    }

    private static List<Path> walk(Path folder) throws IOException {
        try (Stream<Path> all = Files.walk(folder)) {
            return all.filter(Files::isRegularFile).toList();
        }
    }

    /** The blocks of this language, without the lines that fence them. */
    private static List<List<String>> blocks(String language) {
        List<List<String>> found = new ArrayList<>();
        List<String> block = null;
        for (String line : lines) {
            if (line.equals("```")) {
                block = null;
            } else if (line.startsWith("```")) {
                block = new ArrayList<>();
                if (line.equals("```" + language)) {
                    found.add(block);
                }
            } else if (block != null) {
                block.add(line);
            }
        }
        return found;
    }

    /** The rows of the table whose first column is headed so, below its heading. */
    private static List<String[]> table(String heading) {
        List<String[]> rows = new ArrayList<>();
        boolean within = false;
        for (String line : lines) {
            within = line.startsWith("|") && (within || line.startsWith("| " + heading + " |"));
            if (within) {
                rows.add(line.substring(1).trim().split("\\s*\\|\\s*"));
            }
        }
        Due.is("table of " + heading + " has rows", rows.size() > 2 ? 1 : 0, 1);
        return rows.subList(Math.min(2, rows.size()), rows.size());
    }

    /** The names of the public calls, with how many numbers each takes. */
    private static Map<String, Integer> face() {
        Map<String, Integer> calls = new TreeMap<>();
        for (Method method : StripeFiles.class.getDeclaredMethods()) {
            if (Modifier.isPublic(method.getModifiers())) {
                calls.put(method.getName(), method.getParameterCount());
            }
        }
        return calls;
    }

    private static int answer(StripeFiles x, String call, int[] numbers) throws Exception {
        Class<?>[] types = new Class<?>[numbers.length];
        Arrays.fill(types, int.class);
        Object[] arguments = Arrays.stream(numbers).boxed().toArray();
        return (Integer) StripeFiles.class.getMethod(call, types).invoke(x, arguments);
    }

    private static int[] numbers(String listed) {
        return Arrays.stream(listed.split(", ")).mapToInt(Integer::decode).toArray();
    }

    private static int value(String told) throws Exception {
        boolean isNumber = told.matches("-?\\d+");
        return isNumber ? Integer.parseInt(told) : StripeFiles.class.getField(told).getInt(null);
    }
}
