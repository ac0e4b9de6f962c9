import java.io.IOException;
import java.lang.management.ManagementFactory;
import java.lang.reflect.Field;
import java.lang.reflect.Method;
import java.lang.reflect.Modifier;
import java.nio.charset.StandardCharsets;
import java.nio.file.Files;
import java.nio.file.Path;
import java.util.ArrayList;
import java.util.List;
import java.util.regex.Matcher;
import java.util.regex.Pattern;

/** Those rules of ../shared/LANGUAGE.md that show in the text, in the class, or as it runs. */
public final class LanguageTest {
    private static final Path SOURCE = Path.of("src/main/java/Overlayer.java");

    /** By the rules 3, 4, 6, 10 and 13. */
    private static final List<String> LEFT_OUT = List.of(
            "package", "finally", "synchronized", "assert", "volatile", "native", "Random",
            "Thread", "Runtime", "Object", "HashMap", "HashSet", "Exact", "NaN", "hashCode",
            "getMessage", "printStackTrace", "nanoTime", "currentTimeMillis", "exit", "getenv",
            "File", "Path");

    private static final List<String> IMPORTS = List.of("java.util.Arrays", "java.util.ArrayList",
            "java.util.List", "java.util.Iterator", "java.util.NoSuchElementException");

    /** By rule 4: what is written of the library behind the name of one of its classes. */
    private static final Pattern LIBRARY = Pattern.compile("Arrays\\.(fill|copyOf|copyOfRange)"
            + "|System\\.arraycopy|List\\.of|(Integer|Long|Math)\\.\\w+");

    /** By rule 6: what is thrown, and what is caught. */
    private static final List<String> EXCEPTIONS = List.of(
            "IllegalStateException", "IllegalArgumentException", "IndexOutOfBoundsException",
            "ArithmeticException", "UnsupportedOperationException", "NoSuchElementException",
            "RuntimeException");

    /** Caught, these answer a call by what the machine throws. */
    private static final List<String> OF_THE_MACHINE = List.of(
            "IndexOutOfBoundsException", "ArithmeticException", "RuntimeException");

    private static final List<Class<?>> CONSTANTS = List.of(int.class, long.class, boolean.class,
            char.class, String.class, int[].class, long[].class, char[].class, byte[].class);

    /** By the room of a run: each object has 16 bytes, and each field or element has one. */
    private static final long MOST_BYTES = 7_300_000;

    private static final Checks check = new Checks("LanguageTest");

    public static void main(String[] args) throws IOException {
        String source = Files.readString(SOURCE, StandardCharsets.ISO_8859_1);
        String code = source.replaceAll("(?s)/\\*.*?\\*/", "").replaceAll("//[^\n]*", "");
        String bare = code.replaceAll("\"[^\"\n]*\"", "\"\"").replaceAll("'[^'\n]*'", "' '");
        signs(code);
        words(bare);
        library(bare);
        exceptions(bare);
        for (Class<?> each : allClasses()) {
            fields(each);
            parameters(each);
        }
        check.holds(allClasses().size() <= 14, "rule 11: some twelve classes");
        methodLengths(bare);
        room();
        check.end();
    }

    private static void signs(String code) {
        check.holds(code.matches("(?s)[\\x01-\\x7f]*"), "rule 4: signs 1 to 127 alone");
    }

    private static void words(String bare) {
        for (String word : LEFT_OUT) {
            check.holds(!Pattern.compile("\\b" + word + "\\b").matcher(bare).find(), "no " + word);
        }
        check.holds(!bare.contains("::"), "rule 2: no method reference");
        for (String line : bare.split("\n")) {
            boolean isCase = line.trim().startsWith("case ") || line.trim().startsWith("default ");
            check.holds(isCase || !line.contains("->"), "rule 2: no lambda: " + line.trim());
        }
        check.holds(!bare.matches("(?s).*\"\"\\s*\\+.*|(?s).*\\+\\s*\"\".*"),
                "rule 10: no text joined by +");
    }

    private static void library(String bare) {
        Matcher imports = Pattern.compile("import ([^;]*);").matcher(bare);
        while (imports.find()) {
            check.holds(IMPORTS.contains(imports.group(1)), "rule 4: import " + imports.group(1));
        }
        String calls = "\\b(Arrays|System|Math|Integer|Long|List|Objects|Collections)\\.\\w+";
        Matcher call = Pattern.compile(calls).matcher(bare.replaceAll("import [^;]*;", ""));
        while (call.find()) {
            check.holds(LIBRARY.matcher(call.group()).matches(), "rule 4: " + call.group());
        }
    }

    private static void exceptions(String bare) {
        Matcher thrown = Pattern.compile("\\bthrow\\b([^;]*);").matcher(bare);
        while (thrown.find()) {
            Matcher form = Pattern.compile(" new (\\w+)\\((\"\")?\\)").matcher(thrown.group(1));
            check.holds(form.matches() && EXCEPTIONS.contains(form.group(1)),
                    "rule 6: throw" + thrown.group(1));
        }
        Matcher caught = Pattern.compile("\\bcatch \\(([^)]*)\\)").matcher(bare);
        while (caught.find()) {
            String[] kinds = caught.group(1).replaceAll("\\w+$", "").trim().split("\\s*\\|\\s*");
            for (String kind : kinds) {
                check.holds(EXCEPTIONS.contains(kind) && !OF_THE_MACHINE.contains(kind),
                        "rule 6: catch " + kind);
            }
        }
    }

    private static void fields(Class<?> each) {
        int fields = 0;
        for (Field field : each.getDeclaredFields()) {
            boolean isStatic = Modifier.isStatic(field.getModifiers());
            Class<?> type = field.getType();
            boolean isOfEnum = type.isEnum() || type.isArray() && type.getComponentType().isEnum();
            boolean isConstant = Modifier.isFinal(field.getModifiers())
                    && (CONSTANTS.contains(type) || isOfEnum);
            check.holds(!isStatic || isConstant || field.isSynthetic(), "rule 5: " + field);
            fields += isStatic ? 0 : 1;
        }
        check.holds(fields <= 24, "rule 11: some twenty fields: " + each);
    }

    private static void parameters(Class<?> each) {
        for (Method method : each.getDeclaredMethods()) {
            check.holds(method.isSynthetic() || method.getParameterCount() <= 7,
                    "rule 11: seven parameters: " + method);
        }
    }

    private static List<Class<?>> allClasses() {
        List<Class<?>> all = new ArrayList<>(List.of(Overlayer.class));
        for (int each = 0; each < all.size(); each++) {
            all.addAll(List.of(all.get(each).getDeclaredClasses()));
        }
        return all;
    }

    /** By the indents: a method of a class opens and closes at the same one. */
    private static void methodLengths(String bare) {
        String[] lines = bare.split("\n");
        for (int line = 0; line < lines.length; line++) {
            boolean isHead = lines[line].matches(" {4}( {4})?(?!class)[\\w\\[\\]<> ]+\\(.*")
                    && !lines[line].contains(" class ") && !lines[line].matches(".*[;}]\\s*");
            if (isHead) {
                String indent = lines[line].replaceAll("\\S.*", "");
                int end = line;
                while (end < lines.length && !lines[end].equals(indent + "}")) {
                    end++;
                }
                check.holds(end - line <= 66, "rule 11: some sixty lines: " + lines[line].trim());
            }
        }
    }

    /** Rule 12: what a run of some 500 calls makes, of each kind that asks and of those that edit. */
    private static void room() {
        String[] kinds = {"pieces", "pieceSize", "meanPiece", "isSound", "placeOf", "coarse",
            "nearest", "belt", "broken", "match", "areaThen", "keep", "drop", "reconcile", "paint"};
        room("a first run, which also loads what the tests use", Long.MAX_VALUE);
        for (String kind : kinds) {
            room(kind, MOST_BYTES);
        }
    }

    private static void room(String kind, long most) {
        com.sun.management.ThreadMXBean threads =
                (com.sun.management.ThreadMXBean) ManagementFactory.getThreadMXBean();
        long ahead = threads.getCurrentThreadAllocatedBytes();
        Overlayer house = Scene.WITHIN.house();
        for (int call = 0; call < 450; call++) {
            use(house, kind, call);
        }
        long made = threads.getCurrentThreadAllocatedBytes() - ahead;
        check.holds(made < most, "rule 12: a run of " + kind + " makes " + made + " bytes");
    }

    private static void use(Overlayer house, String kind, int call) {
        switch (kind) {
            case "pieces" -> house.pieces(0, 1);
            case "pieceSize" -> house.pieceSize(0, 1, 0);
            case "meanPiece" -> house.meanPiece(1, 2);
            case "isSound" -> house.isSound();
            case "placeOf" -> house.placeOf(0, 1);
            case "coarse" -> house.coarse(0, 256, 1);
            case "nearest" -> house.nearest(0, 9);
            case "belt" -> house.belt(0, 9, 30);
            case "broken" -> house.broken(2);
            case "match" -> house.match(0, 1, 1);
            case "areaThen" -> house.areaThen(0, 17, 2);
            case "keep" -> keepOrBegin(house, call);
            case "drop" -> dropOrBegin(house, call);
            case "reconcile" -> house.reconcile(0, 'v');
            default -> house.paint(0, call % 11 - 1, 0, 0, 16, 16);
        }
    }

    private static void keepOrBegin(Overlayer house, int call) {
        if (call >= 3 * 37) {
            house.areaAt(0, 0);
        } else if (call % 3 == 0) {
            house.sign(2);
        } else if (call % 3 == 1) {
            house.keep();
        } else {
            house.begin(0);
        }
    }

    private static void dropOrBegin(Overlayer house, int call) {
        if (call % 2 == 0) {
            house.drop();
        } else {
            house.begin(call % 6);
        }
    }
}
