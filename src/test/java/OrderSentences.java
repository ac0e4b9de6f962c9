import java.lang.reflect.Method;
import java.util.Arrays;
import java.util.Map;
import java.util.TreeMap;

/**
 * What the document says of exceptions, for each call of the face: each exception by itself, which
 * must leave all as it was, and all that can apply together, of which the first one is thrown.
 */
final class OrderSentences {
    /** The scene and the call in which those exceptions apply that are told, by their order. */
    private interface Setting {
        Scene scene(boolean[] bad);
    }

    private interface Call {
        Object on(Overlayer house, boolean[] bad);
    }

    private record Row(Setting setting, Call call, Class<?>[] listed) {
    }

    private static final Class<?> INDEX = Sentences.INDEX;
    private static final Class<?> ARGUMENT = Sentences.ARGUMENT;
    private static final Class<?> STATE = Sentences.STATE;
    private static final Class<?> UNSUPPORTED = Sentences.UNSUPPORTED;
    private static final Class<?> NO_ELEMENT = Sentences.NO_ELEMENT;
    private static final Class<?> ARITHMETIC = Sentences.ARITHMETIC;

    private final Sentences book;
    private final Map<String, Row> rows = new TreeMap<>();

    OrderSentences(Sentences book) {
        this.book = book;
        addEdits();
        addSessions();
        addSquares();
        addVersions();
        addOverlays();
        addSecondLayers();
        addMaps();
    }

    void all() {
        book.says(0, "A method that throws an exception changes nothing.");
        for (String name : rows.keySet()) {
            ask(name, true);
        }
        book.says(0, "If several exceptions apply, the exception that is listed first is thrown.");
        for (Method method : Overlayer.class.getMethods()) {
            if (method.getDeclaringClass() == Overlayer.class) {
                isListed(method);
            }
        }
        for (String name : rows.keySet()) {
            ask(name, false);
        }
    }

    private void isListed(Method method) {
        String name = method.getName();
        Row row = rows.get(name);
        Class<?>[] listed = row == null ? new Class<?>[0] : row.listed;
        book.due(true, Scene.NEW, h -> Arrays.equals(listed, method.getExceptionTypes()),
                "what " + name + " lists is asked here");
    }

    private void ask(String name, boolean isSingle) {
        Row row = rows.get(name);
        for (int mask = 0; mask < 1 << row.listed.length; mask++) {
            if (Integer.bitCount(mask) == 1 != isSingle) {
                continue;
            }
            boolean[] bad = new boolean[row.listed.length];
            for (int each = 0; each < bad.length; each++) {
                bad[each] = (mask >> each & 1) == 1;
            }
            Scene scene = row.setting.scene(bad);
            String what = name + " with " + Arrays.toString(bad);
            if (mask == 0) {
                book.due(false, scene, h -> Sentences.answer(h, house -> row.call.on(house, bad))
                        instanceof Class, what + " throws");
            } else {
                Class<?> first = row.listed[Integer.numberOfTrailingZeros(mask)];
                book.refused(first.asSubclass(RuntimeException.class), scene,
                        h -> row.call.on(h, bad), what);
            }
        }
    }

    private void row(String name, Setting setting, Call call, Class<?>... listed) {
        rows.put(name, new Row(setting, call, listed));
    }

    private static Setting inSession(int state) {
        return bad -> bad[state] ? Scene.BETWEEN : Scene.WITHIN;
    }

    private static Setting outside(int state) {
        return bad -> bad[state] ? Scene.WITHIN : Scene.BETWEEN;
    }

    private static Setting full(int state) {
        return bad -> bad[state] ? Scene.FULL : Scene.BETWEEN;
    }

    private static Setting anywhere() {
        return bad -> Scene.WITHIN;
    }

    private static int or(boolean isBad, int bad, int good) {
        return isBad ? bad : good;
    }

    private void addEdits() {
        row("paint", inSession(2), (h, bad) -> h.paint(or(bad[0], 3, 0), or(bad[1], 10, 1),
                0, 0, 1, 1), INDEX, ARGUMENT, STATE);
        row("paint of a box", inSession(2), (h, bad) -> h.paint(or(bad[0], -1, 2), -1,
                15, 0, or(bad[1], 2, 1), 1), INDEX, ARGUMENT, STATE);
        row("split", inSession(2), (h, bad) -> h.split(or(bad[0], 3, 0), 1, or(bad[3], 2, 5),
                bad[1] ? 'z' : 'x', 1), INDEX, ARGUMENT, STATE, UNSUPPORTED);
        row("split at a line", inSession(2), (h, bad) -> h.split(or(bad[0], -1, 0), 1,
                or(bad[3], 9, 0), 'y', or(bad[1], 16, 15)), INDEX, ARGUMENT, STATE, UNSUPPORTED);
        row("merge", inSession(2), (h, bad) -> h.merge(or(bad[0], 3, 0), 1, or(bad[1], 1, 2)),
                INDEX, ARGUMENT, STATE);
        row("setValue", inSession(2), (h, bad) -> h.setValue(or(bad[0], 3, 0), or(bad[3], 8, 1),
                or(bad[1], 10000, 9999)), INDEX, ARGUMENT, STATE, UNSUPPORTED);
        row("setDivides", anywhere(), (h, bad) -> h.setDivides(or(bad[0], 3, 0), false), INDEX);
    }

    private void addSessions() {
        row("begin", outside(1), (h, bad) -> h.begin(or(bad[0], 6, 0)), ARGUMENT, STATE);
        row("begin after 40", full(1), (h, bad) -> h.begin(or(bad[0], -1, 5)), ARGUMENT, STATE);
        row("sign", inSession(1), (h, bad) -> h.sign(or(bad[0], 3, 2)), NO_ELEMENT, STATE);
        row("keep", bad -> bad[0] ? bad[1] ? Scene.BETWEEN : Scene.NEW
                : bad[1] ? Scene.WITHIN : Scene.WITHIN.with(h -> h.sign(2)), (h, bad) -> h.keep(),
                STATE, UNSUPPORTED);
        row("drop", inSession(0), (h, bad) -> h.drop(), STATE);
        row("addRule", outside(2), (h, bad) -> h.addRule(bad[0] ? 'x' : 'i', 0, or(bad[1], 0, 1)),
                ARGUMENT, INDEX, STATE);
        row("addRule to 6", full(2), (h, bad) -> h.addRule(bad[0] ? 'N' : 'n', or(bad[1], 3, 2), 0),
                ARGUMENT, INDEX, STATE);
        row("broken", anywhere(), (h, bad) -> h.broken(or(bad[0], 3, 2)), NO_ELEMENT);
        row("leastBroken", full(0), (h, bad) -> h.leastBroken(), NO_ELEMENT);
    }

    private void addSquares() {
        row("areaAt", anywhere(), (h, bad) -> h.areaAt(0, or(bad[0], 256, 255)), INDEX);
        row("areaThen", anywhere(), (h, bad) -> h.areaThen(0, or(bad[0], 256, 255),
                or(bad[1], 3, 2)), INDEX, ARGUMENT);
        row("authorOf", anywhere(), (h, bad) -> h.authorOf(or(bad[0], 3, 0), or(bad[2], 200, 17),
                or(bad[1], -1, 2)), INDEX, ARGUMENT, NO_ELEMENT);
        row("size", anywhere(), (h, bad) -> h.size(or(bad[0], 3, 0), or(bad[1], 10, 9)),
                INDEX, ARGUMENT);
        row("value", anywhere(), (h, bad) -> h.value(or(bad[0], 3, 0), or(bad[1], 10, 9)),
                INDEX, ARGUMENT);
        row("rim", anywhere(), (h, bad) -> h.rim(or(bad[0], 3, 0), or(bad[1], 10, 9)),
                INDEX, ARGUMENT);
        row("border", anywhere(), (h, bad) -> h.border(or(bad[0], 3, 0), 1, or(bad[1], 1, 2)),
                INDEX, ARGUMENT);
        row("distance", anywhere(), (h, bad) -> h.distance(or(bad[0], 3, 0), or(bad[1], 10, 1),
                or(bad[2], 8, 2)), INDEX, ARGUMENT, NO_ELEMENT);
        row("distance of the same", anywhere(), (h, bad) -> h.distance(or(bad[0], -1, 0),
                or(bad[2], 8, 1), bad[1] ? or(bad[2], 8, 1) : 2), INDEX, ARGUMENT, NO_ELEMENT);
        row("nearest", bad -> bad[2] ? Scene.NEW : Scene.WITHIN, (h, bad) -> h.nearest(
                or(bad[0], 3, 0), or(bad[1], 10, 1)), INDEX, ARGUMENT, NO_ELEMENT);
        row("belt", anywhere(), (h, bad) -> h.belt(or(bad[0], 3, 0), 1, or(bad[1], 31, 30)),
                INDEX, ARGUMENT);
    }

    private void addVersions() {
        row("checkOut", outside(2), (h, bad) -> h.checkOut(or(bad[0], 3, 0), 0, 0,
                or(bad[1], 17, 16), 1), INDEX, ARGUMENT, STATE);
        row("checkOut to 3", full(2), (h, bad) -> h.checkOut(or(bad[0], -1, 2), 15, 15, 1,
                or(bad[1], 0, 1)), INDEX, ARGUMENT, STATE);
        row("change", anywhere(), (h, bad) -> h.change(or(bad[0], 2, 0), or(bad[1], 6, 5),
                or(bad[2], 10, 9)), NO_ELEMENT, INDEX, ARGUMENT);
        row("conflicts", anywhere(), (h, bad) -> h.conflicts(or(bad[0], 2, 1)), NO_ELEMENT);
        row("clashes", anywhere(), (h, bad) -> h.clashes(or(bad[0], 2, 1)), NO_ELEMENT);
        row("reconcile", inSession(2), (h, bad) -> h.reconcile(or(bad[0], 2, 1),
                bad[1] ? 'L' : 'l'), NO_ELEMENT, ARGUMENT, STATE);
    }

    private void addOverlays() {
        row("pieces", anywhere(), (h, bad) -> h.pieces(1, or(bad[0], 1, 2)), INDEX);
        row("pieceSize", anywhere(), (h, bad) -> h.pieceSize(1, or(bad[0], 3, 2),
                or(bad[1], 4, 3)), INDEX, NO_ELEMENT);
        row("parent", anywhere(), (h, bad) -> h.parent(1, or(bad[0], 1, 2), or(bad[1], -1, 0),
                true), INDEX, NO_ELEMENT);
        row("match", anywhere(), (h, bad) -> h.match(or(bad[0], 3, 0), or(bad[1], 10, 1),
                or(bad[2], 2, 1)), INDEX, ARGUMENT, NO_ELEMENT);
        row("matchKind", anywhere(), (h, bad) -> h.matchKind(0, or(bad[1], 10, 1),
                or(bad[0], 0, 1)), INDEX, ARGUMENT);
    }

    /** Where a call has two layers, and more to be wrong, neither of them is passed over. */
    private void addSecondLayers() {
        int[][] wrong = {{-1, 1}, {3, 1}, {1, -1}, {1, 3}, {1, 1}};
        for (int[] layers : wrong) {
            String what = " of the layers " + layers[0] + " and " + layers[1];
            row("addRule" + what, outside(2), (h, bad) -> h.addRule(bad[0] ? 'x' : 'a',
                    or(bad[1], layers[0], 0), or(bad[1], layers[1], 2)), ARGUMENT, INDEX, STATE);
            row("pieceSize" + what, anywhere(), (h, bad) -> h.pieceSize(or(bad[0], layers[0], 0),
                    or(bad[0], layers[1], 2), or(bad[1], 99, 0)), INDEX, NO_ELEMENT);
            row("parent" + what, anywhere(), (h, bad) -> h.parent(or(bad[0], layers[0], 0),
                    or(bad[0], layers[1], 2), or(bad[1], -1, 0), false), INDEX, NO_ELEMENT);
            row("match" + what, anywhere(), (h, bad) -> h.match(or(bad[0], layers[0], 0),
                    or(bad[1], 10, or(bad[2], 8, 1)), or(bad[0], layers[1], 1)),
                    INDEX, ARGUMENT, NO_ELEMENT);
            row("matchKind" + what, anywhere(), (h, bad) -> h.matchKind(or(bad[0], layers[0], 0),
                    or(bad[1], -1, 1), or(bad[0], layers[1], 1)), INDEX, ARGUMENT);
            row("meanPiece" + what, bad -> bad[1] ? Scene.NEW : Scene.WITHIN, (h, bad) ->
                    h.meanPiece(or(bad[0], layers[0], 0), or(bad[0], layers[1], 2)),
                    INDEX, ARITHMETIC);
        }
    }

    private void addMaps() {
        row("coarse", anywhere(), (h, bad) -> h.coarse(or(bad[0], 3, 0), or(bad[1], 257, 256),
                or(bad[2], 8, 1)), INDEX, ARGUMENT, NO_ELEMENT);
        row("coarseAreas", anywhere(), (h, bad) -> h.coarseAreas(or(bad[0], 3, 0),
                or(bad[1], 0, 1)), INDEX, ARGUMENT);
        row("name", anywhere(), (h, bad) -> h.name(or(bad[0], 3, 0), 1, or(bad[1], 7, 6)),
                INDEX, ARGUMENT);
        row("placeOf", bad -> bad[2] ? Scene.NEW : Scene.WITHIN, (h, bad) -> h.placeOf(
                or(bad[0], 3, 0), or(bad[1], 10, 1)), INDEX, ARGUMENT, NO_ELEMENT);
        row("values", anywhere(), (h, bad) -> h.values(or(bad[0], 3, 2)), INDEX);
        row("covered", anywhere(), (h, bad) -> h.covered(or(bad[0], 3, 2)), INDEX);
        row("meanPiece", bad -> bad[1] ? Scene.NEW : Scene.WITHIN, (h, bad) -> h.meanPiece(
                0, or(bad[0], 0, 1)), INDEX, ARITHMETIC);
    }
}
