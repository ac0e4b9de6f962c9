import java.io.IOException;
import java.nio.file.Files;
import java.nio.file.Path;
import java.util.ArrayList;
import java.util.LinkedHashMap;
import java.util.List;
import java.util.Map;

/**
 * The document's sentences with the tests that ask them. The test of a sentence stands between the
 * says that quotes it and the next one; the number 0 is for what stands ahead of the promises.
 */
final class Sentences {
    interface Call {
        Object on(Overlayer house);
    }

    interface NumberCall {
        Object on(Overlayer house, int number);
    }

    interface SignCall {
        Object on(Overlayer house, char sign);
    }

    static final Class<IndexOutOfBoundsException> INDEX = IndexOutOfBoundsException.class;
    static final Class<IllegalArgumentException> ARGUMENT = IllegalArgumentException.class;
    static final Class<IllegalStateException> STATE = IllegalStateException.class;
    static final Class<UnsupportedOperationException> UNSUPPORTED =
            UnsupportedOperationException.class;
    static final Class<java.util.NoSuchElementException> NO_ELEMENT =
            java.util.NoSuchElementException.class;
    static final Class<ArithmeticException> ARITHMETIC = ArithmeticException.class;

    static final int LEAST = Integer.MIN_VALUE;
    static final int GREATEST = Integer.MAX_VALUE;

    /** Numbers of which there is no layer, no area, and so on: those beyond each end come first. */
    private static final int[] NO_LAYERS = {-1, 3, LEAST, GREATEST};
    private static final int[] NO_AREAS = {-1, 10, LEAST, GREATEST};
    private static final int[] NO_AREAS_NOR_NONE = {-2, 10, LEAST, GREATEST};
    private static final int[] NO_SQUARES = {-1, 256, LEAST, GREATEST};

    private final Map<String, Integer> asked = new LinkedHashMap<>();
    private String sentence = "";
    private int passed;
    private int failed;

    void says(int promise, String text) {
        sentence = promise + " | " + text;
        if (asked.put(sentence, 0) != null) {
            fail("this sentence has two tests");
        }
    }

    /** The answer of a call, or the class of what it throws. */
    static Object answer(Overlayer house, Call call) {
        try {
            return call.on(house);
        } catch (RuntimeException thrown) {
            return thrown.getClass();
        }
    }

    void due(Object want, Scene scene, Call call, String what) {
        Object got = answer(scene.house(), call);
        count(want.equals(got), what + ": due is " + want + ", but it is " + got);
    }

    /** A call that only asks: it leaves all as it was. */
    void asks(Object want, Scene scene, Call call, String what) {
        due(want, scene, call, what);
        leaves(scene, call, what);
    }

    /** A call that throws: it leaves all as it was, too. */
    void refused(Class<? extends RuntimeException> want, Scene scene, Call call, String what) {
        due(want, scene, call, what);
        leaves(scene, call, what);
    }

    private void leaves(Scene scene, Call call, String what) {
        List<String> changed = Looks.changedBy(scene, call);
        count(changed.isEmpty(), what + " changes " + changed);
    }

    void refusedNumbers(Class<? extends RuntimeException> want, Scene scene, NumberCall call,
            String what, int... numbers) {
        for (int number : numbers) {
            refused(want, scene, house -> call.on(house, number), what + " " + number);
        }
    }

    void refusedLayers(Scene scene, NumberCall call) {
        refusedNumbers(INDEX, scene, call, "layer", NO_LAYERS);
    }

    void refusedAreas(Scene scene, NumberCall call) {
        refusedNumbers(ARGUMENT, scene, call, "area", NO_AREAS);
    }

    void refusedAreasNorNone(Scene scene, NumberCall call) {
        refusedNumbers(ARGUMENT, scene, call, "area", NO_AREAS_NOR_NONE);
    }

    void refusedSquares(Scene scene, NumberCall call) {
        refusedNumbers(INDEX, scene, call, "square", NO_SQUARES);
    }

    /** All signs but those of the text: the ones beside them, other cases, and their like. */
    void refusedSigns(Scene scene, SignCall call, String what, String allowed) {
        StringBuilder signs = new StringBuilder("\0 09?AZaz\u007f\u00ff\uffff");
        for (char sign : allowed.toCharArray()) {
            signs.append((char) (sign - 1)).append((char) (sign + 1));
            signs.append((char) (sign + 256)).append(Character.toUpperCase(sign));
        }
        for (char sign : signs.toString().toCharArray()) {
            if (allowed.indexOf(sign) < 0) {
                refused(ARGUMENT, scene, house -> call.on(house, sign), what + " " + (int) sign);
            }
        }
    }

    /** The numbers of the squares of an area, or of none, as a text. */
    static String squares(Overlayer house, int layer, int area) {
        StringBuilder squares = new StringBuilder();
        for (int square = 0; square < 256; square++) {
            if (house.areaAt(layer, square) == area) {
                squares.append(squares.length() > 0 ? " " : "").append(square);
            }
        }
        return squares.toString();
    }

    private void count(boolean holds, String what) {
        asked.merge(sentence, 1, Integer::sum);
        if (holds) {
            passed++;
        } else {
            fail(what);
        }
    }

    private void fail(String what) {
        failed++;
        System.out.println("promise " + sentence + "\n    " + what);
    }

    /** Each sentence of the document must have been asked, and no other. */
    void end() throws IOException {
        List<String> due = sentencesOf(Files.readString(Path.of("../shared/DOC.md")));
        for (String each : due) {
            sentence = each;
            if (asked.getOrDefault(each, 0) == 0) {
                fail("this sentence has no test");
            }
        }
        for (String each : asked.keySet()) {
            sentence = each;
            if (!due.contains(each)) {
                fail("this is no sentence of the document");
            }
        }
        for (int promise = 0; promise <= 41; promise++) {
            String start = promise + " | ";
            int sentences = 0;
            int checks = 0;
            for (Map.Entry<String, Integer> each : asked.entrySet()) {
                sentences += each.getKey().startsWith(start) ? 1 : 0;
                checks += each.getKey().startsWith(start) ? each.getValue() : 0;
            }
            System.out.println((promise == 0 ? "ahead of the promises" : "promise " + promise)
                    + ": " + sentences + " sentences, " + checks + " checks");
        }
        System.out.println(passed + " passed, " + failed + " failed");
        System.exit(failed == 0 && passed > 0 ? 0 : 1);
    }

    private static List<String> sentencesOf(String document) {
        List<String> sentences = new ArrayList<>();
        for (String section : document.split("(?m)^## ")) {
            int end = section.indexOf('\n');
            String head = end < 0 ? "" : section.substring(0, end);
            String body = end < 0 ? "" : section.substring(end + 1).trim();
            if (head.equals("Terms")) {
                addTerms(sentences, body);
            } else if (head.equals("What it is")) {
                addTerms(sentences, body.replaceFirst("(?s)^.*?\\n\\s*\\n", ""));
            } else if (head.matches("Promise \\d+: .*")) {
                String number = head.replaceAll("Promise (\\d+): .*", "$1");
                addPromise(sentences, number, body);
            }
        }
        return sentences;
    }

    /** Titles of one to three words, and the remarks on the interface, are no sentences. */
    private static void addTerms(List<String> sentences, String body) {
        for (String paragraph : body.split("\\n\\s*\\n")) {
            String line = paragraph.trim().replaceAll("\\s+", " ");
            for (String each : line.split("(?<=\\.) ")) {
                boolean isTitle = each.matches("\\w+( \\w+){0,2}\\.");
                if (!isTitle && !line.startsWith("Ahead of the calls")) {
                    sentences.add("0 | " + each);
                }
            }
        }
    }

    private static void addPromise(List<String> sentences, String number, String body) {
        for (String paragraph : body.split("\\n\\s*\\n|\\n(?=- )")) {
            String line = paragraph.trim().replaceAll("\\s+", " ");
            String text = line.replaceAll("^- ", "").replaceAll("^`[\\w ]+\\([^`]*`: ", "");
            sentences.add(number + " | " + text);
        }
    }
}
