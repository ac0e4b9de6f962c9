/** Promises 11 to 13: rules. */
final class RuleSentences {
    private final Sentences book;

    RuleSentences(Sentences book) {
        this.book = book;
    }

    void all() {
        adds();
        addParameters();
        addReturns();
        addWrong();
        addState();
        broken();
        brokenWrong();
        least();
        leastNone();
    }

    private void adds() {
        book.says(11, "Adds a rule.");
        book.refused(Sentences.NO_ELEMENT, Scene.NEW, h -> h.broken(0), "ahead of it");
        book.due(0, Scene.NEW.with(h -> h.addRule('i', 0, 1)), h -> h.broken(0), "behind it");
        book.refused(Sentences.UNSUPPORTED, Scene.NEW.with(house -> {
            house.begin(0);
            house.paint(0, 0, 0, 0, 1, 1);
            house.keep();
            house.addRule('i', 0, 1);
            house.begin(0);
        }), h -> h.keep(), "it is broken by what was kept before");
        book.due(10, Scene.BETWEEN.with(h -> h.addRule('i', 0, 1)), h -> h.broken(2),
                "the rules before stay");
    }

    private void addParameters() {
        book.says(11, "`kind`: 'i', 'n' or 'a'");
        // 'i' at the squares 0 and 1, 'n' at 2 and 3, 'a' below 0 and 1 and between 3 and 4.
        int[] breaks = {2, 2, 3};
        for (int each = 0; each < 3; each++) {
            char kind = "ina".charAt(each);
            book.due(breaks[each], Scene.NEW.with(house -> {
                house.addRule(kind, 0, 1);
                house.begin(0);
                house.paint(0, 0, 0, 0, 4, 1);
                house.paint(1, 9, 2, 0, 5, 1);
            }), h -> h.broken(0), "the kind " + kind);
        }
        book.says(11, "`first`: the first layer");
        for (int layers = 0; layers < 6; layers++) {
            book.due(1, between('i', layers), h -> h.broken(0), "layers " + layers);
        }
        book.says(11, "`second`: the second layer");
        for (int layers = 0; layers < 6; layers++) {
            book.due(3, between('n', layers), h -> h.broken(0), "layers " + layers);
        }
    }

    /** The first layer has the squares 0 to 3, the second one 1 to 9, the third one others. */
    private static Scene between(char kind, int layers) {
        int first = layers / 2;
        int second = (first + 1 + layers % 2) % 3;
        return Scene.NEW.with(house -> {
            house.addRule(kind, first, second);
            house.begin(0);
            house.paint(first, 0, 0, 0, 4, 1);
            house.paint(second, 0, 1, 0, 9, 1);
            house.paint(3 - first - second, 0, 0, 5, 9, 1);
        });
    }

    private void addReturns() {
        book.says(11, "Returns the number of the rule.");
        for (int each = 0; each < 6; each++) {
            int rules = each;
            book.due(each, Scene.NEW, h -> {
                for (int rule = 0; rule < rules; rule++) {
                    h.addRule('a', 2, 1);
                }
                return h.addRule("ina".charAt(rules % 3), rules % 2, 2);
            }, "after " + rules + " rules");
        }
        book.due(3, Scene.BETWEEN, h -> h.addRule('i', 0, 1), "the same one as rule 0");
    }

    private void addWrong() {
        book.says(11, "Throws `IllegalArgumentException` if there is no such kind");
        book.refusedSigns(Scene.BETWEEN, (h, kind) -> h.addRule(kind, 0, 1), "kind", "ina");
        book.refused(Sentences.ARGUMENT, Scene.NEW, h -> h.addRule('x', 0, 1), "kind x");
        book.says(11, "Throws `IndexOutOfBoundsException` if there is no such layer, or both are the "
                + "same");
        book.refusedLayers(Scene.BETWEEN, (h, first) -> h.addRule('i', first, 1));
        book.refusedLayers(Scene.BETWEEN, (h, second) -> h.addRule('n', 1, second));
        book.refusedNumbers(Sentences.INDEX, Scene.BETWEEN,
                (h, layer) -> h.addRule('a', layer, layer), "both are", 0, 1, 2, 3, -1);
    }

    private void addState() {
        book.says(11, "Throws `IllegalStateException` if there are 6 rules, or a session");
        for (char kind : new char[] {'i', 'n', 'a'}) {
            book.refused(Sentences.STATE, Scene.ALL_RULES_AND_VERSIONS, h -> h.addRule(kind, 0, 1),
                    "6 rules");
            book.refused(Sentences.STATE, Scene.FULL, h -> h.addRule(kind, 2, 0), "6 rules");
            book.refused(Sentences.STATE, Scene.WITHIN, h -> h.addRule(kind, 0, 1), "a session");
            book.refused(Sentences.STATE, Scene.BEGUN, h -> h.addRule(kind, 0, 1), "a session");
            book.refused(Sentences.STATE, Scene.LAST_WITHIN, h -> h.addRule(kind, 0, 1), "both");
        }
        book.due(5, Scene.NEW, h -> {
            for (int rule = 0; rule < 5; rule++) {
                h.addRule('i', 0, 1);
            }
            return h.addRule('i', 0, 1);
        }, "5 rules");
        book.due(3, Scene.WITHIN.with(h -> h.drop()), h -> h.addRule('i', 0, 1), "it was dropped");
        book.due(0, Scene.BEGUN.with(h -> h.keep()), h -> h.addRule('i', 0, 1), "it was kept");
    }

    private void broken() {
        book.says(12, "Returns at how many squares, or pairs of squares, a rule is broken.");
        Scene rules = Scene.NEW.with(house -> {
            house.addRule('i', 0, 1);
            house.addRule('n', 0, 1);
            house.addRule('a', 0, 1);
            house.begin(0);
            house.paint(0, 4, 5, 5, 3, 3);
        });
        book.due(9, rules, h -> h.broken(0), "squares of an area outside");
        book.due(0, rules, h -> h.broken(1), "no squares over one another");
        book.due(12, rules, h -> h.broken(2), "pairs along the rim");
        Scene over = rules.with(house -> house.paint(1, 0, 0, 0, 16, 16));
        book.due(0, over, h -> h.broken(0), "no squares outside");
        book.due(9, over, h -> h.broken(1), "squares over one another");
        book.due(12, over, h -> h.broken(2), "pairs in one area");
        book.due(0, rules.with(h -> h.drop()), h -> h.broken(0), "behind a drop");
        book.says(12, "`rule`: the number of the rule");
        for (int each = 0; each < 6; each++) {
            int rule = each;
            Scene six = Scene.NEW.with(house -> {
                for (int number = 0; number < 6; number++) {
                    house.addRule(number == rule ? 'i' : 'n', 0, 1);
                }
                house.begin(0);
                house.paint(0, 0, 0, 0, 2, 1);
            });
            book.due(2, six, h -> h.broken(rule), "the only one that is broken");
            book.due(0, six, h -> h.broken((rule + 1) % 6), "one beside it");
        }
        book.says(12, "Returns the number.");
        book.due(256, Scene.NEW.with(house -> {
            house.addRule('i', 2, 0);
            house.begin(0);
            house.paint(2, 0, 0, 0, 16, 16);
        }), h -> h.broken(0), "the greatest number of squares");
        book.due(480, Scene.NEW.with(house -> {
            house.addRule('a', 2, 0);
            house.begin(0);
            for (int square = 0; square < 128; square++) {
                house.paint(2, 0, 2 * (square % 8) + square / 8 % 2, square / 8, 1, 1);
            }
        }), h -> h.broken(0), "the greatest number of pairs");
        book.due(0, Scene.FULL, h -> h.broken(5), "none");
    }

    private void brokenWrong() {
        book.says(12, "Throws `NoSuchElementException` if there is no such rule");
        Sentences.NumberCall broken = (h, rule) -> h.broken(rule);
        int[] far = {-1, 6, Sentences.LEAST, Sentences.GREATEST};
        book.refusedNumbers(Sentences.NO_ELEMENT, Scene.NEW, broken, "of no rules", 0, 5);
        book.refusedNumbers(Sentences.NO_ELEMENT, Scene.NEW, broken, "of no rules", far);
        book.refusedNumbers(Sentences.NO_ELEMENT, Scene.WITHIN, broken, "of three rules", 3, 5);
        book.refusedNumbers(Sentences.NO_ELEMENT, Scene.FULL, broken, "of six rules", far);
        book.due(11, Scene.WITHIN, h -> h.broken(2), "the last of three rules");
    }

    /** A rule 'n' for each number, broken at so many squares: each has an area of its own layer. */
    private static Scene brokenAt(int zero, int one, int two) {
        return Scene.NEW.with(house -> {
            house.addRule('n', 0, 1);
            house.addRule('n', 1, 2);
            house.addRule('n', 2, 0);
            house.begin(0);
            int[] breaks = {zero, one, two};
            for (int rule = 0; rule < 3; rule++) {
                for (int square = 0; square < breaks[rule]; square++) {
                    house.paint(rule, 0, square, rule, 1, 1);
                    house.paint((rule + 1) % 3, 0, square, rule, 1, 1);
                }
            }
        });
    }

    private void least() {
        book.says(13, "Returns the rule that is broken at the fewest places, of several the one with "
                + "the lowest number.");
        int[][] cases = {{1, 1, 1, 0}, {2, 1, 1, 1}, {2, 2, 1, 2}, {2, 1, 2, 1}, {1, 2, 2, 0},
            {3, 2, 1, 2}, {1, 2, 3, 0}, {0, 1, 1, 1}, {0, 0, 1, 2}, {0, 9, 8, 2}, {9, 0, 9, 0},
            {9, 0, 8, 2}, {0, 5, 0, 1}, {7, 0, 0, 0}};
        for (int[] each : cases) {
            book.due(each[3], brokenAt(each[0], each[1], each[2]), h -> h.leastBroken(),
                    "broken at " + each[0] + ", " + each[1] + " and " + each[2]);
        }
        book.says(13, "Returns the number of the rule.");
        for (int each = 0; each < 6; each++) {
            int rule = each;
            book.due(rule, Scene.NEW.with(house -> {
                for (int number = 0; number < 6; number++) {
                    house.addRule(number == rule ? 'i' : 'n', 0, 1);
                }
                house.begin(0);
                house.paint(0, 0, 0, 0, 16, 16);
            }), h -> h.leastBroken(), "the only one of six");
        }
        book.due(2, Scene.WITHIN.with(h -> h.sign(2)), h -> h.leastBroken(), "one that is signed");
        book.due(2, Scene.BETWEEN, h -> h.leastBroken(), "outside of sessions");
    }

    private void leastNone() {
        book.says(13, "Throws `NoSuchElementException` if none is broken");
        book.refused(Sentences.NO_ELEMENT, Scene.NEW, h -> h.leastBroken(), "no rules");
        book.refused(Sentences.NO_ELEMENT, Scene.FULL, h -> h.leastBroken(), "six rules");
        book.refused(Sentences.NO_ELEMENT, brokenAt(0, 0, 0), h -> h.leastBroken(), "three rules");
        book.refused(Sentences.NO_ELEMENT, brokenAt(1, 0, 0).with(h -> h.drop()),
                h -> h.leastBroken(), "what broke it was dropped");
    }
}
