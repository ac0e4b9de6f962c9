import java.util.ArrayList;
import java.util.HashMap;
import java.util.List;
import java.util.Map;

/**
 * All that the calls of a house can show of it, in parts of fewer than 300 calls, as some of them
 * change it: each part looks at a house of its own.
 */
final class Looks {
    private interface Look {
        void at(Overlayer house, Looks seen);
    }

    private static final Map<String, Look> PARTS = parts();
    private static final Map<Scene, Map<String, String>> KNOWN = new HashMap<>();

    private final StringBuilder text = new StringBuilder();

    private static Map<String, Look> parts() {
        Map<String, Look> parts = new java.util.LinkedHashMap<>();
        for (int each = 0; each < 3; each++) {
            int number = each;
            parts.put("the squares of layer " + each, (house, seen) -> seen.squares(house, number));
            parts.put("the areas of layer " + each, (house, seen) -> seen.areas(house, number));
            parts.put("the history of layer " + each, (house, seen) -> seen.history(house, number));
            parts.put("the authors of layer " + each, (house, seen) -> seen.authors(house, number));
            parts.put("version " + each, (house, seen) -> seen.version(house, number));
            parts.put("version " + each + ", reconciled",
                    (house, seen) -> seen.reconciled(house, number));
        }
        parts.put("the rules and versions", (house, seen) -> seen.rulesAndVersions(house));
        parts.put("a rule and a version more", (house, seen) -> seen.more(house));
        parts.put("the signatures", (house, seen) -> seen.signatures(house));
        parts.put("keep", (house, seen) -> seen.keep(house));
        parts.put("drop", (house, seen) -> seen.drop(house));
        return parts;
    }

    /** The names of the parts at which a house shows otherwise than one of the scene. */
    static List<String> changedBy(Scene scene, Sentences.Call call) {
        Map<String, String> known = KNOWN.computeIfAbsent(scene, each -> new HashMap<>());
        List<String> changed = new ArrayList<>();
        for (String part : PARTS.keySet()) {
            String want = known.computeIfAbsent(part, each -> look(part, scene.house()));
            Overlayer house = scene.house();
            Sentences.answer(house, call);
            if (!want.equals(look(part, house))) {
                changed.add(part);
            }
        }
        return changed;
    }

    private static String look(String part, Overlayer house) {
        Looks seen = new Looks();
        PARTS.get(part).at(house, seen);
        return seen.text.toString();
    }

    private void ask(Overlayer house, Sentences.Call call) {
        Object answer = Sentences.answer(house, call);
        text.append(answer).append(' ');
    }

    private void squares(Overlayer house, int layer) {
        for (int square = 0; square < 256; square++) {
            int asked = square;
            ask(house, h -> h.areaAt(layer, asked));
        }
    }

    private void areas(Overlayer house, int layer) {
        for (int each = 0; each < 10; each++) {
            int area = each;
            ask(house, h -> h.size(layer, area));
            ask(house, h -> h.value(layer, area));
            ask(house, h -> h.rim(layer, area));
            ask(house, h -> h.placeOf(layer, area));
            ask(house, h -> h.coarse(layer, 16, area));
            ask(house, h -> h.match(layer, area, (layer + 1) % 3));
            ask(house, h -> h.name(layer, area, 0));
        }
        ask(house, h -> h.values(layer));
        ask(house, h -> h.covered(layer));
        ask(house, h -> h.pieces(layer, (layer + 1) % 3));
        ask(house, h -> h.setDivides(layer, true));
        ask(house, h -> h.isSound());
    }

    private void history(Overlayer house, int layer) {
        for (int each = 0; each < 42 * 8; each++) {
            int time = each / 8;
            int square = sample(each % 8);
            ask(house, h -> h.areaThen(layer, square, time));
        }
    }

    private void authors(Overlayer house, int layer) {
        for (int each = 0; each < 42 * 8; each++) {
            int time = each / 8;
            int square = sample(each % 8);
            ask(house, h -> h.authorOf(layer, square, time));
        }
    }

    private static int sample(int number) {
        return new int[] {0, 1, 9, 17, 33, 35, 131, 255}[number];
    }

    private void version(Overlayer house, int version) {
        for (int square = 0; square < 256; square++) {
            int asked = square;
            ask(house, h -> h.change(version, asked, -1));
        }
    }

    /** With 'l', as that tells the base too: only what the layer left as it was is given. */
    private void reconciled(Overlayer house, int version) {
        ask(house, h -> h.begin(5));
        ask(house, h -> h.reconcile(version, 'l'));
        for (int square = 0; square < 256; square++) {
            int asked = square;
            ask(house, h -> h.areaAt(version, asked));
        }
    }

    private void rulesAndVersions(Overlayer house) {
        for (int each = 0; each < 7; each++) {
            int number = each;
            ask(house, h -> h.broken(number));
            ask(house, h -> h.conflicts(number));
            ask(house, h -> h.clashes(number));
        }
        ask(house, h -> h.leastBroken());
        ask(house, h -> h.begin(1));
    }

    private void more(Overlayer house) {
        ask(house, h -> h.addRule('i', 2, 1));
        ask(house, h -> h.checkOut(2, 0, 0, 1, 1));
        ask(house, h -> h.drop());
        ask(house, h -> h.addRule('i', 2, 1));
        ask(house, h -> h.checkOut(2, 0, 0, 1, 1));
    }

    private void signatures(Overlayer house) {
        ask(house, h -> h.keep());
        for (int each = 6; each >= 0; each--) {
            int rule = each;
            ask(house, h -> h.sign(rule));
            ask(house, h -> h.keep());
        }
    }

    private void keep(Overlayer house) {
        for (int each = 0; each < 6; each++) {
            int rule = each;
            ask(house, h -> h.sign(rule));
        }
        ask(house, h -> h.keep());
        for (int each = 0; each < 3 * 8; each++) {
            int layer = each / 8;
            int square = sample(each % 8);
            for (int time : new int[] {1, 3, 40}) {
                ask(house, h -> h.areaThen(layer, square, time));
                ask(house, h -> h.authorOf(layer, square, time));
            }
        }
        ask(house, h -> h.begin(0));
        ask(house, h -> h.isSound());
    }

    private void drop(Overlayer house) {
        ask(house, h -> h.drop());
        for (int each = 0; each < 30; each++) {
            int layer = each / 10;
            int area = each % 10;
            ask(house, h -> h.size(layer, area));
            ask(house, h -> h.value(layer, area));
        }
        ask(house, h -> h.isSound());
        ask(house, h -> h.begin(0));
    }
}
