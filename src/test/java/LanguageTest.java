import java.io.IOException;
import java.lang.reflect.Array;
import java.lang.reflect.Field;
import java.lang.reflect.Method;
import java.lang.reflect.Modifier;
import java.nio.file.Files;
import java.nio.file.Path;
import java.util.IdentityHashMap;
import java.util.List;
import java.util.Map;
import java.util.regex.Matcher;
import java.util.regex.Pattern;

/** Those rules of ../shared/LANGUAGE.md that show in the text or in the compiled class. */
public final class LanguageTest {
    private static final Path SOURCE = Path.of("src/main/java/Overlayer.java");
    private static final List<String> WORDS_LEFT_OUT = List.of(
            "package", "try", "catch", "finally", "synchronized", "assert", "instanceof", "volatile",
            "native", "Random", "Thread", "Object", "HashMap", "Exact", "sqrt", "NaN", "toString",
            "hashCode", "equals", "getMessage", "printStackTrace", "nanoTime", "currentTimeMillis",
            "var", "yield", "this\\(");
    private static final List<String> LIBRARY = List.of(
            "Arrays.fill", "System.arraycopy", "Math.abs", "Math.min", "Math.max");
    private static final List<String> THROWN = List.of(
            "IllegalStateException", "IllegalArgumentException", "IndexOutOfBoundsException",
            "ArithmeticException", "UnsupportedOperationException", "NoSuchElementException");

    private static final Checks check = new Checks("LanguageTest");

    public static void main(String[] args) throws IOException {
        String source = Files.readString(SOURCE, java.nio.charset.StandardCharsets.ISO_8859_1);
        String code = source.replaceAll("(?s)/\\*.*?\\*/", "").replaceAll("//[^\n]*", "");
        String bare = code.replaceAll("\"[^\"\n]*\"", "\"\"").replaceAll("'[^'\n]*'", "' '");
        signs(source);
        words(bare);
        exceptions(bare);
        staticFields();
        classes();
        methodLengths(bare);
        newObjects(bare);
        room();
        check.end();
    }

    private static void signs(String source) {
        check.holds(source.matches("[\n\\x20-\\x7e]*"), "signs 32 to 126 and line ends alone");
        check.holds(!source.contains("\\u"), "no sign written by its number");
    }

    private static void words(String bare) {
        for (String word : WORDS_LEFT_OUT) {
            check.holds(!Pattern.compile("\\b" + word + (word.endsWith("(") ? "" : "\\b"))
                    .matcher(bare).find(), "no " + word);
        }
        check.holds(!bare.contains("->") && !bare.contains("::"), "no lambda, no method reference");
        check.holds(!bare.matches("(?s).*\"\"\\s*\\+.*|(?s).*\\+\\s*\"\".*"), "no text joined by +");
        Matcher imports = Pattern.compile("import ([^;]*);").matcher(bare);
        while (imports.find()) {
            String name = imports.group(1);
            check.holds(name.equals("java.util.Arrays")
                    || name.equals("java.util.NoSuchElementException"), "import of " + name);
        }
        Matcher calls = Pattern.compile("\\b(Arrays|System|Math|Integer|Long|String)\\.\\w+")
                .matcher(bare);
        while (calls.find()) {
            String call = calls.group();
            check.holds(LIBRARY.contains(call), call + " stands in the library's list");
        }
    }

    private static void exceptions(String bare) {
        Matcher thrown = Pattern.compile("\\bthrow\\b([^;]*);").matcher(bare);
        while (thrown.find()) {
            Matcher form = Pattern.compile(" new (\\w+)\\((\"\")?\\)").matcher(thrown.group(1));
            check.holds(form.matches() && THROWN.contains(form.group(1)), "throw" + thrown.group(1));
        }
    }

    private static void staticFields() {
        for (Class<?> each : allClasses()) {
            int fields = 0;
            for (Field field : each.getDeclaredFields()) {
                boolean isStatic = Modifier.isStatic(field.getModifiers());
                boolean isConstant = Modifier.isFinal(field.getModifiers())
                        && field.getType().isPrimitive();
                check.holds(!isStatic || isConstant, field + " is no state");
                fields += isStatic ? 0 : 1;
            }
            check.holds(fields <= 20, each + " has at most twenty fields");
        }
    }

    private static void classes() {
        check.holds(allClasses().size() <= 12, "at most twelve classes");
        for (Class<?> each : allClasses()) {
            for (Method method : each.getDeclaredMethods()) {
                check.holds(method.getParameterCount() <= 7, method + " takes at most seven");
            }
        }
    }

    private static List<Class<?>> allClasses() {
        List<Class<?>> all = new java.util.ArrayList<>(List.of(Overlayer.class));
        all.addAll(List.of(Overlayer.class.getDeclaredClasses()));
        return all;
    }

    /** By the indents: a method of a class opens and closes at the same one. */
    private static void methodLengths(String bare) {
        String[] lines = bare.split("\n");
        for (int line = 0; line < lines.length; line++) {
            boolean isHead = lines[line].matches(" {4}( {4})?(?!class)[\\w\\[\\]<> ]+\\(.*");
            if (isHead && !lines[line].contains(" class ") && !lines[line].endsWith(";")) {
                String indent = lines[line].replaceAll("\\S.*", "");
                int end = line;
                while (end < lines.length && !lines[end].equals(indent + "}")) {
                    end++;
                }
                check.holds(end - line < 60, "at most sixty lines: " + lines[line].trim());
            }
        }
    }

    /** Rows are made with the house; in calls only a rule, a version and exceptions are. */
    private static void newObjects(String bare) {
        for (String line : bare.split("\n")) {
            boolean isMade = line.matches(".*\\bnew\\b.*") && !line.contains("throw new ");
            boolean isField = line.matches(" +(private )?final [\\w\\[\\]]+ \\w+ = new .*");
            boolean isCounted = line.matches(".*new (Layer|Rule|Version)\\(.*");
            check.holds(!isMade || isField || isCounted, "made in a call: " + line.trim());
        }
    }

    private static void room() {
        Overlayer house = new Overlayer();
        for (int each = 0; each < 6; each++) {
            house.addRule('i', 0, 1);
        }
        for (int each = 0; each < 3; each++) {
            house.checkOut(each, 0, 0, 16, 16);
        }
        Map<Object, Integer> held = new IdentityHashMap<>();
        hold(house, held);
        int elements = held.values().stream().mapToInt(Integer::intValue).sum();
        check.holds(held.size() < 200, held.size() + " objects and arrays are few");
        check.holds(elements < 50000, elements + " fields and elements are few");
    }

    private static void hold(Object object, Map<Object, Integer> held) {
        if (object == null || held.containsKey(object)) {
            return;
        }
        if (object.getClass().isArray()) {
            held.put(object, Array.getLength(object));
            if (object instanceof Object[] row) {
                for (Object each : row) {
                    hold(each, held);
                }
            }
            return;
        }
        Field[] fields = object.getClass().getDeclaredFields();
        held.put(object, fields.length);
        for (Field field : fields) {
            if (!field.getType().isPrimitive()) {
                hold(read(field, object), held);
            }
        }
    }

    private static Object read(Field field, Object object) {
        try {
            field.setAccessible(true);
            return field.get(object);
        } catch (IllegalAccessException wrong) {
            throw new IllegalStateException(wrong);
        }
    }
}
