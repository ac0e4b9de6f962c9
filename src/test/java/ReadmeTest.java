import java.io.File;
import java.io.IOException;
import java.lang.reflect.Method;
import java.nio.file.Files;
import java.nio.file.Path;
import java.util.ArrayList;
import java.util.Comparator;
import java.util.LinkedHashMap;
import java.util.List;
import java.util.Map;
import java.util.Set;
import java.util.TreeSet;
import java.util.regex.Matcher;
import java.util.regex.Pattern;
import java.util.stream.Stream;

/** README.md tells what is so: its example, its calls with their exceptions, numbers, and tests. */
public final class ReadmeTest {
    private static final Path SOURCE = Path.of("src/main/java/Overlayer.java");
    private static final Path TESTS = Path.of("src/test/java");
    private static final String PRINTS = "System.out.println(";

    private static final Checks check = new Checks("ReadmeTest");

    public static void main(String[] args) throws IOException, InterruptedException {
        String page = Files.readString(Path.of("README.md"));
        example(page);
        calls(page);
        whenCalled(page);
        numbers(page);
        signs(page);
        tests(page);
        check.end();
    }

    /** The text of each block of a language, without its fences. */
    private static List<String> blocks(String page, String language) {
        List<String> found = new ArrayList<>();
        Matcher block = Pattern.compile("(?ms)^```" + language + "\n(.*?)^```$").matcher(page);
        while (block.find()) {
            found.add(block.group(1));
        }
        return found;
    }

    private static void example(String page) throws IOException, InterruptedException {
        List<String> programs = blocks(page, "java");
        check.due(1, programs::size, "one example");
        String program = programs.isEmpty() ? "" : programs.get(0);
        List<String> due = new ArrayList<>();
        List<String> lines = new ArrayList<>();
        for (String line : program.split("\n")) {
            if (line.contains(PRINTS)) {
                int tells = line.lastIndexOf("// ");
                due.add(tells < 0 ? "nothing" : line.substring(tells + 3).trim());
                lines.add(line.trim());
            }
        }
        List<String> got = printed(program, blocks(page, "sh"));
        check.due(due.size(), got::size, "as many lines as the example tells");
        for (int line = 0; line < due.size() && line < got.size(); line++) {
            String answer = got.get(line);
            check.due(due.get(line), () -> answer, lines.get(line));
        }
        for (Method method : face().values()) {
            check.holds(program.contains("house." + method.getName() + "("),
                    "the example calls " + method.getName());
        }
    }

    /** What the example prints when README.md's own commands compile and run it elsewhere. */
    private static List<String> printed(String program, List<String> commands)
            throws IOException, InterruptedException {
        Path place = Files.createTempDirectory("readme");
        List<String> got = List.of();
        try {
            Files.createDirectories(place.resolve(SOURCE).getParent());
            Files.copy(SOURCE, place.resolve(SOURCE));
            Files.writeString(place.resolve("Example.java"), program);
            String first = commands.isEmpty() ? "" : commands.get(0);
            check.holds(first.startsWith("javac "), "the example's commands come first");
            for (String command : first.strip().split("\n")) {
                got = output(place, command);
            }
        } finally {
            remove(place);
        }
        return got;
    }

    private static List<String> output(Path place, String command)
            throws IOException, InterruptedException {
        File out = place.resolve("printed").toFile();
        Process process = new ProcessBuilder(command.trim().split(" +")).directory(place.toFile())
                .redirectError(ProcessBuilder.Redirect.INHERIT).redirectOutput(out).start();
        process.getOutputStream().close();
        int code = process.waitFor();
        List<String> lines = Files.readAllLines(out.toPath());
        check.due(0, () -> code, command + " printed " + lines + " and ended with");
        return lines;
    }

    private static void remove(Path place) throws IOException {
        try (Stream<Path> all = Files.walk(place)) {
            for (Path each : all.sorted(Comparator.reverseOrder()).toList()) {
                Files.delete(each);
            }
        }
    }

    private static Map<String, Method> face() {
        Map<String, Method> face = new LinkedHashMap<>();
        for (Method method : Overlayer.class.getMethods()) {
            if (method.getDeclaringClass() == Overlayer.class) {
                face.put(method.getName(), method);
            }
        }
        return face;
    }

    /** Each call with its exceptions, and when they are thrown, as the document lists them. */
    private static void calls(String page) throws IOException {
        Map<String, List<String>> due = documented();
        String lists = page.replaceAll("\n +(?![- ])", " ");
        Map<String, List<String>> told = exceptions(lists,
                "(?m)^- `(\\w+ \\w+\\([^)]*\\))`: ", "(?m)^  - `(\\w+)` (if .*)$");
        check.due(40, due::size, "calls of the document");
        check.due(new ArrayList<>(due.keySet()), () -> new ArrayList<>(told.keySet()), "the calls");
        for (Map.Entry<String, List<String>> each : due.entrySet()) {
            check.due(each.getValue(), () -> told.getOrDefault(each.getKey(), List.of()),
                    "the exceptions of " + each.getKey());
        }
        for (Map.Entry<String, List<String>> each : told.entrySet()) {
            declared(each.getKey(), each.getValue());
        }
    }

    private static Map<String, List<String>> documented() throws IOException {
        return exceptions(Files.readString(Path.of("../shared/DOC.md")),
                "(?m)^`(\\w+ \\w+\\([^)]*\\))[^`]*`: ", "(?m)^Throws `(\\w+)` (if .*)$");
    }

    /** For each call that a text tells, what stands of exceptions up to the next call. */
    private static Map<String, List<String>> exceptions(String text, String call,
            String exception) {
        Map<String, List<String>> calls = new LinkedHashMap<>();
        Matcher head = Pattern.compile(call).matcher(text);
        boolean isFound = head.find();
        while (isFound) {
            String name = head.group(1);
            int start = head.end();
            isFound = head.find();
            String body = text.substring(start, isFound ? head.start() : text.length());
            List<String> thrown = new ArrayList<>();
            Matcher line = Pattern.compile(exception).matcher(body);
            while (line.find()) {
                thrown.add(line.group(1) + " " + line.group(2).trim());
            }
            calls.put(name, thrown);
        }
        return calls;
    }

    private static String nameOf(String call) {
        return call.replaceAll("^\\w+ (\\w+)\\(.*", "$1");
    }

    private static void declared(String call, List<String> told) {
        String name = nameOf(call);
        Method method = face().get(name);
        check.holds(method != null, "the class has " + name);
        List<String> thrown = new ArrayList<>();
        List<String> declared = new ArrayList<>();
        for (String each : told) {
            thrown.add(each.replaceAll(" .*", ""));
        }
        for (Class<?> each : method == null ? new Class<?>[0] : method.getExceptionTypes()) {
            declared.add(each.getSimpleName());
        }
        check.due(declared, () -> thrown, "what " + name + " declares");
    }

    /** The calls told to be made within sessions, and outside, are those refused elsewhere. */
    private static void whenCalled(String page) throws IOException {
        String text = page.replaceAll("\\s+", " ");
        Matcher told = Pattern.compile("by one thread at once\\. (.*?) are called within a session, "
                + "that is, between (.*?); (.*?) outside of sessions;").matcher(text);
        check.holds(told.find(), "README.md tells when calls are made");
        Set<String> within = names(told.group(1));
        Set<String> ends = names(told.group(2));
        Set<String> outside = names(told.group(3));
        check.due(Set.of("begin", "keep", "drop"), () -> ends, "what begins and ends a session");
        for (Map.Entry<String, List<String>> each : documented().entrySet()) {
            String name = nameOf(each.getKey());
            boolean isBegin = name.equals("begin");
            boolean isWithin = within.contains(name) || ends.contains(name) && !isBegin;
            check.due(whenThrown(each.getValue(), " no session"), () -> isWithin,
                    name + " is called within a session");
            check.due(whenThrown(each.getValue(), " a session"), () -> outside.contains(name) || isBegin,
                    name + " is called outside of sessions");
        }
    }

    private static boolean whenThrown(List<String> exceptions, String when) {
        boolean isThrown = false;
        for (String each : exceptions) {
            isThrown = isThrown || each.startsWith("IllegalStateException ") && each.contains(when);
        }
        return isThrown;
    }

    private static Set<String> names(String text) {
        Set<String> names = new TreeSet<>();
        Matcher name = Pattern.compile("`([^`]+)`").matcher(text);
        while (name.find()) {
            names.add(name.group(1));
        }
        return names;
    }

    /** What the table of numbers and signs tells of this one. */
    private static String row(String page, String name) {
        Matcher row = Pattern.compile("(?m)^\\|([^|]*`" + name + "`[^|]*)\\|([^|]*)\\|$").matcher(page);
        boolean isFound = row.find();
        check.holds(isFound, "README.md has a row of " + name);
        return isFound ? row.group(2) : "";
    }

    private static void numbers(String page) {
        Scene full = Scene.ALL_RULES_AND_VERSIONS.with(Scene.BEGUN);
        range(page, "layer", full, (house, number) -> house.size(number, 0));
        range(page, "first", full, (house, number) -> house.pieces(number, number == 0 ? 1 : 0));
        range(page, "second", full, (house, number) -> house.pieces(number == 0 ? 1 : 0, number));
        range(page, "area", full, (house, number) -> house.size(0, number));
        range(page, "other", full, (house, number) -> house.border(0, number == 0 ? 1 : 0, number));
        range(page, "into", full, (house, number) -> house.merge(0, number == 0 ? 1 : 0, number));
        range(page, "square", full, (house, number) -> house.areaAt(0, number));
        range(page, "author", Scene.NEW, (house, number) -> house.begin(number));
        range(page, "value", Scene.WITHIN, (house, number) -> house.setValue(0, 1, number));
        range(page, "at", full, (house, number) -> house.split(0, 0, 1, 'x', number));
        range(page, "rule", full, (house, number) -> house.broken(number));
        range(page, "version", full, (house, number) -> house.conflicts(number));
        range(page, "width", full, (house, number) -> house.belt(0, 0, number));
        range(page, "least", full, (house, number) -> house.coarseAreas(0, number));
        range(page, "length", full, (house, number) -> house.name(0, 0, number));
    }

    private static void range(String page, String name, Scene scene, Sentences.NumberCall call) {
        Matcher told = Pattern.compile("(\\d+) to (\\d+)").matcher(row(page, name));
        check.holds(told.find(), "README.md tells the range of " + name);
        int least = Integer.parseInt(told.group(1));
        int greatest = Integer.parseInt(told.group(2));
        for (int number : new int[] {least - 1, least, greatest, greatest + 1}) {
            Object got = Sentences.answer(scene.house(), house -> call.on(house, number));
            boolean isIn = number >= least && number <= greatest;
            check.holds(isIn == !(got instanceof Class), name + " " + number + ": " + got);
        }
    }

    private static void signs(String page) {
        Scene split = Scene.BEGUN;
        sign(page, "axis", split, (house, sign) -> house.split(0, 0, 1, sign, 0));
        sign(page, "kind", Scene.NEW, (house, sign) -> house.addRule(sign, 0, 1));
        sign(page, "side", Scene.WITHIN, (house, sign) -> house.reconcile(0, sign));
    }

    private static void sign(String page, String name, Scene scene, Sentences.SignCall call) {
        String told = row(page, name);
        for (char sign = 32; sign < 127; sign++) {
            char each = sign;
            Object got = Sentences.answer(scene.house(), house -> call.on(house, each));
            check.holds(told.contains("'" + sign + "'") == !(got instanceof Class),
                    name + " " + sign + ": " + got);
        }
    }

    /** README.md names each test, and no other, and the one command that runs them. */
    private static void tests(String page) throws IOException {
        Set<String> there = new TreeSet<>();
        try (Stream<Path> all = Files.list(TESTS)) {
            for (Path each : all.toList()) {
                String name = each.getFileName().toString();
                if (name.endsWith("Test.java")) {
                    there.add(name.replace(".java", ""));
                }
            }
        }
        Set<String> told = new TreeSet<>();
        Matcher name = Pattern.compile("`(\\w+Test)`").matcher(page);
        while (name.find()) {
            told.add(name.group(1));
        }
        check.due(there, () -> told, "the tests");
        check.holds(blocks(page, "sh").contains("bash .ci/run\n"), "the command of all tests");
        check.holds(Files.isExecutable(Path.of(".ci/run")), "it can be run");
    }
}
