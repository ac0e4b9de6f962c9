/** Promises 3 to 7: edits, values, and whether a layer divides. */
final class EditSentences {
    private static final int[] OFF_MAP = {-1, 16, Sentences.LEAST, Sentences.GREATEST};

    private final Sentences book;

    EditSentences(Sentences book) {
        this.book = book;
    }

    void all() {
        paints();
        paintBox();
        paintReturns();
        paintWrong();
        paintNoSession();
        splits();
        splitAreas();
        splitAxis();
        splitAt();
        splitReturns();
        splitWrong();
        splitNoSession();
        splitUnsupported();
        merges();
        mergeAreas();
        mergeReturns();
        mergeWrong();
        sets();
        setReturns();
        setWrong();
        setUnsupported();
        divides();
        dividesReturns();
    }

    private static Scene painted(int layer, int area, int x, int y, int dx, int dy) {
        return Scene.BEGUN.with(house -> house.paint(layer, area, x, y, dx, dy));
    }

    private void paints() {
        book.says(3, "Gives the squares of a box to an area.");
        int[][] boxes = {{0, 0, 1, 1}, {15, 15, 1, 1}, {0, 0, 16, 16}, {0, 15, 16, 1}, {15, 0, 1, 16},
            {3, 5, 2, 4}, {14, 13, 2, 3}};
        for (int[] box : boxes) {
            StringBuilder squares = new StringBuilder();
            for (int square = 0; square < 256; square++) {
                int right = square % 16 - box[0];
                int down = square / 16 - box[1];
                if (right >= 0 && right < box[2] && down >= 0 && down < box[3]) {
                    squares.append(squares.length() > 0 ? " " : "").append(square);
                }
            }
            book.due(squares.toString(), painted(0, 7, box[0], box[1], box[2], box[3]),
                    h -> Sentences.squares(h, 0, 7), "a box of none");
            book.due(squares.toString(), painted(0, 2, 0, 0, 16, 16).with(
                    house -> house.paint(0, 7, box[0], box[1], box[2], box[3])),
                    h -> Sentences.squares(h, 0, 7), "a box of another area");
        }
        book.says(3, "`layer`: the layer");
        for (int each = 0; each < 3; each++) {
            int layer = each;
            for (int other = 0; other < 3; other++) {
                int asked = other;
                book.due(layer == other ? 6 : 0, painted(layer, 4, 1, 1, 3, 2),
                        h -> h.size(asked, 4), "layer " + layer + ", asked for " + other);
            }
        }
        book.says(3, "`area`: the area, or -1 for none");
        for (int area = -1; area < 10; area++) {
            int given = area;
            book.due(given, painted(1, 5, 0, 0, 9, 9).with(h -> h.paint(1, given, 2, 2, 1, 1)),
                    h -> h.areaAt(1, 34), "the area " + given);
        }
    }

    private void paintBox() {
        book.says(3, "`x`: the lowest x");
        book.due("16 17", painted(0, 1, 0, 1, 2, 1), h -> Sentences.squares(h, 0, 1), "x 0");
        book.due("30 31", painted(0, 1, 14, 1, 2, 1), h -> Sentences.squares(h, 0, 1), "x 14");
        book.due("31", painted(0, 1, 15, 1, 1, 1), h -> Sentences.squares(h, 0, 1), "x 15");
        book.says(3, "`y`: the lowest y");
        book.due("1 17", painted(0, 1, 1, 0, 1, 2), h -> Sentences.squares(h, 0, 1), "y 0");
        book.due("225 241", painted(0, 1, 1, 14, 1, 2), h -> Sentences.squares(h, 0, 1), "y 14");
        book.due("241", painted(0, 1, 1, 15, 1, 1), h -> Sentences.squares(h, 0, 1), "y 15");
        book.says(3, "`dx`: the number of squares along x");
        book.due("5", painted(0, 1, 5, 0, 1, 1), h -> Sentences.squares(h, 0, 1), "dx 1");
        book.due("5 6", painted(0, 1, 5, 0, 2, 1), h -> Sentences.squares(h, 0, 1), "dx 2");
        book.due(16, painted(0, 1, 0, 0, 16, 1), h -> h.size(0, 1), "dx 16");
        book.due(-1, painted(0, 1, 0, 0, 16, 1), h -> h.areaAt(0, 16), "dx 16 ends with the row");
        book.says(3, "`dy`: the number of squares along y");
        book.due("80", painted(0, 1, 0, 5, 1, 1), h -> Sentences.squares(h, 0, 1), "dy 1");
        book.due("80 96", painted(0, 1, 0, 5, 1, 2), h -> Sentences.squares(h, 0, 1), "dy 2");
        book.due(16, painted(0, 1, 0, 0, 1, 16), h -> h.size(0, 1), "dy 16");
    }

    private void paintReturns() {
        book.says(3, "Returns the number of squares that change.");
        book.due(256, Scene.BEGUN, h -> h.paint(0, 1, 0, 0, 16, 16), "all");
        book.due(1, Scene.BEGUN, h -> h.paint(0, 1, 15, 15, 1, 1), "one");
        book.due(0, painted(0, 1, 0, 0, 16, 16), h -> h.paint(0, 1, 0, 0, 16, 16),
                "none, as all belong to it");
        book.due(0, Scene.BEGUN, h -> h.paint(0, -1, 0, 0, 16, 16), "none to none");
        book.due(12, painted(0, 1, 0, 0, 2, 2), h -> h.paint(0, 1, 0, 0, 4, 4),
                "less those that belong to it");
        book.due(4, painted(0, 1, 0, 0, 2, 2), h -> h.paint(0, -1, 0, 0, 16, 16),
                "less those that belong to none");
        book.due(9, painted(0, 1, 0, 0, 2, 2), h -> h.paint(0, 2, 0, 0, 3, 3),
                "with those of another area");
    }

    private void paintWrong() {
        book.says(3, "Throws `IndexOutOfBoundsException` if there is no such layer");
        book.refusedLayers(Scene.WITHIN, (h, layer) -> h.paint(layer, 0, 0, 0, 1, 1));
        book.refusedLayers(Scene.NEW, (h, layer) -> h.paint(layer, 0, 0, 0, 1, 1));
        book.says(3, "Throws `IllegalArgumentException` if there is no such area, a number is less "
                + "than 1, or the box reaches beyond the squares");
        Scene within = Scene.WITHIN;
        Class<IllegalArgumentException> wrong = Sentences.ARGUMENT;
        book.refusedAreasNorNone(within, (h, area) -> h.paint(0, area, 0, 0, 1, 1));
        book.refusedAreasNorNone(Scene.NEW, (h, area) -> h.paint(0, area, 0, 0, 1, 1));
        book.refusedNumbers(wrong, within, (h, dx) -> h.paint(0, 1, 15, 0, dx, 1), "dx at x 15",
                0, -1, 2, 16, Sentences.LEAST, Sentences.GREATEST);
        book.refusedNumbers(wrong, within, (h, dy) -> h.paint(0, 1, 0, 15, 1, dy), "dy at y 15",
                0, -1, 2, 16, Sentences.LEAST, Sentences.GREATEST);
        book.refusedNumbers(wrong, within, (h, dx) -> h.paint(0, 1, 0, 0, dx, 1), "dx at x 0",
                0, 17, Sentences.LEAST, Sentences.GREATEST);
        book.refusedNumbers(wrong, within, (h, dy) -> h.paint(0, 1, 0, 0, 1, dy), "dy at y 0",
                0, 17, Sentences.LEAST, Sentences.GREATEST);
        book.refusedNumbers(wrong, within, (h, x) -> h.paint(0, 1, x, 0, 1, 1), "x", OFF_MAP);
        book.refusedNumbers(wrong, within, (h, y) -> h.paint(0, 1, 0, y, 1, 1), "y", OFF_MAP);
        book.refused(wrong, within, h -> h.paint(0, 1, -1, 0, 2, 1), "from x -1 on");
        book.refused(wrong, within, h -> h.paint(0, 1, 0, -1, 1, 2), "from y -1 on");
        book.refused(wrong, within, h -> h.paint(0, 1, 16, 0, -1, 1), "back from x 16");
        book.refused(wrong, within, h -> h.paint(0, 1, 0, 16, 1, -1), "back from y 16");
        book.refused(wrong, within, h -> h.paint(0, 1, 1, 0, Sentences.GREATEST, 1), "x wraps");
        book.refused(wrong, within, h -> h.paint(0, 1, 0, 1, 1, Sentences.GREATEST), "y wraps");
        book.refused(wrong, within, h -> h.paint(0, 1, Sentences.GREATEST, 0, 1, 1), "x wraps");
        book.refused(wrong, within, h -> h.paint(0, 1, Sentences.LEAST, 0, Sentences.LEAST, 1),
                "x wraps to 0");
        book.refused(wrong, within, h -> h.paint(0, 1, -15, 0, 16, 1), "all but one are beyond");
        book.due(1, Scene.BEGUN, h -> h.paint(0, 1, 15, 0, 1, 1), "just at the end of x");
        book.due(1, Scene.BEGUN, h -> h.paint(0, 1, 0, 15, 1, 1), "just at the end of y");
    }

    private void paintNoSession() {
        book.says(3, "Throws `IllegalStateException` if there is no session");
        Scene[] scenes = {Scene.NEW, Scene.BETWEEN, Scene.FULL, Scene.WITHIN.with(h -> h.drop())};
        for (Scene scene : scenes) {
            book.refused(Sentences.STATE, scene, h -> h.paint(0, 1, 0, 0, 1, 1), "no session");
            book.refused(Sentences.STATE, scene, h -> h.paint(2, -1, 0, 0, 16, 16), "no session");
        }
    }

    /** Area 1 of layer 0 has the squares with x 2 to 6 and y 3 to 6, and the value 200. */
    private static Scene box() {
        return painted(0, 1, 2, 3, 5, 4).with(house -> house.setValue(0, 1, 200));
    }

    private void splits() {
        book.says(4, "Splits an area: its squares from a line on belong to another one.");
        Scene split = box().with(house -> house.split(0, 1, 8, 'x', 5));
        book.due("53 54 69 70 85 86 101 102", split, h -> Sentences.squares(h, 0, 8), "from x 5");
        book.due(12, split, h -> h.size(0, 1), "those ahead of it stay");
        book.due(80, split, h -> h.value(0, 8), "8 of 20 squares have 80 of 200");
        book.due(120, split, h -> h.value(0, 1), "12 of 20 squares keep 120");
        Scene others = box().with(house -> {
            house.paint(0, 4, 5, 0, 1, 16);
            house.split(0, 1, 8, 'x', 5);
        });
        book.due(16, others, h -> h.size(0, 4), "squares of other areas stay");
        book.due(4, others, h -> h.size(0, 8), "its own squares alone");
        book.due(0, box().with(h -> h.split(0, 3, 8, 'x', 0)), h -> h.size(0, 8),
                "an area without squares");
        book.says(4, "`layer`: the layer");
        for (int each = 0; each < 3; each++) {
            int layer = each;
            Scene all = Scene.BEGUN.with(house -> {
                for (int number = 0; number < 3; number++) {
                    house.paint(number, 1, 0, 0, 2, 2);
                }
                house.split(layer, 1, 2, 'y', 1);
            });
            for (int other = 0; other < 3; other++) {
                int asked = other;
                book.due(layer == other ? 2 : 0, all, h -> h.size(asked, 2), "layer " + layer);
            }
        }
    }

    private void splitAreas() {
        book.says(4, "`area`: the area");
        for (int each = 0; each < 10; each += 9) {
            int area = each;
            Scene split = painted(0, area, 0, 0, 3, 1).with(h -> h.split(0, area, 5, 'x', 1));
            book.due("0", split, h -> Sentences.squares(h, 0, area), "area " + area);
        }
        book.says(4, "`other`: the other area");
        for (int each = 0; each < 10; each += 9) {
            int other = each;
            Scene split = painted(0, 5, 0, 0, 3, 1).with(h -> h.split(0, 5, other, 'x', 1));
            book.due("1 2", split, h -> Sentences.squares(h, 0, other), "other area " + other);
        }
    }

    private void splitAxis() {
        book.says(4, "`axis`: 'x' for squares with at least this x, 'y' likewise");
        Scene whole = painted(0, 0, 0, 0, 16, 16);
        for (int each = 0; each < 16; each++) {
            int line = each;
            Scene alongX = whole.with(house -> house.split(0, 0, 9, 'x', line));
            book.due(9, alongX, h -> h.areaAt(0, line), "at least the x " + line);
            book.due(9, alongX, h -> h.areaAt(0, 255), "the last square, x");
            book.due(line == 0 ? 9 : 0, alongX, h -> h.areaAt(0, 240), "the lowest x");
            book.due(16 * (16 - line), alongX, h -> h.size(0, 9), "the size, x " + line);
            Scene alongY = whole.with(house -> house.split(0, 0, 9, 'y', line));
            book.due(9, alongY, h -> h.areaAt(0, 16 * line), "at least the y " + line);
            book.due(9, alongY, h -> h.areaAt(0, 255), "the last square, y");
            book.due(line == 0 ? 9 : 0, alongY, h -> h.areaAt(0, 15), "the lowest y");
            book.due(16 * (16 - line), alongY, h -> h.size(0, 9), "the size, y " + line);
        }
    }

    private void splitAt() {
        book.says(4, "`at`: the x or y");
        // The box has x 2 to 6 and y 3 to 6.
        int[] alongX = {20, 20, 20, 16, 12, 8, 4, 0, 0};
        int[] alongY = {20, 20, 20, 20, 15, 10, 5, 0, 0};
        for (int each = 0; each < 9; each++) {
            int line = each;
            book.due(alongX[each], box(), h -> h.split(0, 1, 8, 'x', line), "the x " + line);
            book.due(alongY[each], box(), h -> h.split(0, 1, 8, 'y', line), "the y " + line);
        }
        book.due(0, box(), h -> h.split(0, 1, 8, 'x', 15), "the greatest x");
        book.due(0, box(), h -> h.split(0, 1, 8, 'y', 15), "the greatest y");
    }

    private void splitReturns() {
        book.says(4, "Returns the number of squares that change.");
        Scene whole = painted(0, 0, 0, 0, 16, 16);
        book.due(256, whole, h -> h.split(0, 0, 1, 'x', 0), "all");
        book.due(16, whole, h -> h.split(0, 0, 1, 'y', 15), "the last row");
        book.due(0, whole, h -> h.split(0, 5, 1, 'y', 0), "none, of an area without squares");
        book.due(0, painted(0, 0, 0, 0, 5, 5), h -> h.split(0, 0, 1, 'x', 5), "none from x 5 on");
        book.due(1, painted(0, 0, 15, 15, 1, 1), h -> h.split(0, 0, 1, 'x', 15), "one");
    }

    private void splitWrong() {
        book.says(4, "Throws `IndexOutOfBoundsException` if there is no such layer");
        book.refusedLayers(Scene.WITHIN, (h, layer) -> h.split(layer, 1, 8, 'x', 1));
        book.says(4, "Throws `IllegalArgumentException` if there is no such area, for either, both "
                + "are the same, there is no such axis, or the number is out of range");
        Scene within = Scene.WITHIN;
        book.refusedAreas(within, (h, area) -> h.split(0, area, 8, 'x', 1));
        book.refusedAreas(within, (h, other) -> h.split(0, 1, other, 'x', 1));
        book.refusedNumbers(Sentences.ARGUMENT, within, (h, area) -> h.split(0, area, area, 'x', 1),
                "both are", 0, 1, 8, 9, -1, 10);
        book.refusedSigns(within, (h, axis) -> h.split(0, 1, 8, axis, 1), "axis", "xy");
        book.refusedNumbers(Sentences.ARGUMENT, within, (h, at) -> h.split(0, 1, 8, 'x', at), "x",
                OFF_MAP);
        book.refusedNumbers(Sentences.ARGUMENT, within, (h, at) -> h.split(0, 1, 8, 'y', at), "y",
                OFF_MAP);
    }

    private void splitNoSession() {
        book.says(4, "Throws `IllegalStateException` if there is no session");
        Scene[] scenes = {Scene.NEW, Scene.BETWEEN, Scene.FULL, Scene.WITHIN.with(h -> h.drop())};
        for (Scene scene : scenes) {
            book.refused(Sentences.STATE, scene, h -> h.split(0, 1, 8, 'x', 1), "no session");
            book.refused(Sentences.STATE, scene, h -> h.split(0, 1, 2, 'x', 1), "no session");
        }
    }

    private void splitUnsupported() {
        book.says(4, "Throws `UnsupportedOperationException` if the other area has squares");
        Class<UnsupportedOperationException> full = Sentences.UNSUPPORTED;
        Scene within = Scene.WITHIN;
        book.refused(full, within, h -> h.split(0, 1, 2, 'x', 1), "14 squares");
        book.refused(full, within, h -> h.split(0, 1, 9, 'x', 1), "one square");
        book.refused(full, within, h -> h.split(0, 1, 9, 'x', 15), "one, and none would change");
        book.refused(full, within, h -> h.split(0, 8, 9, 'x', 0), "one, and the area has none");
        book.refused(full, painted(0, 1, 0, 0, 16, 16), h -> h.split(0, 0, 1, 'x', 0), "all");
        book.due(11, within.with(house -> house.paint(0, -1, 15, 15, 1, 1)),
                h -> h.split(0, 1, 9, 'y', 0), "its only square is gone");
        book.refused(full, within.with(h -> h.split(0, 1, 8, 'y', 2)),
                h -> h.split(0, 1, 8, 'y', 1), "it was split to before");
    }

    private void merges() {
        book.says(5, "Gives all squares of an area to another one.");
        Scene two = box().with(house -> {
            house.paint(0, 1, 15, 15, 1, 1);
            house.paint(0, 1, 0, 0, 1, 1);
            house.paint(0, 6, 9, 9, 2, 2);
            house.setValue(0, 6, 5);
            house.merge(0, 1, 6);
        });
        book.due(0, two, h -> h.size(0, 1), "none is left");
        book.due(26, two, h -> h.size(0, 6), "all are there");
        book.due(6, two, h -> h.areaAt(0, 0), "the first square");
        book.due(6, two, h -> h.areaAt(0, 255), "the last square");
        book.due(205, two, h -> h.value(0, 6), "with all of the value");
        book.due(0, two, h -> h.value(0, 1), "no value is left");
        book.due(20, box().with(h -> h.merge(0, 1, 9)), h -> h.size(0, 9),
                "to an area without squares");
        book.says(5, "`layer`: the layer");
        for (int each = 0; each < 3; each++) {
            int layer = each;
            Scene all = Scene.BEGUN.with(house -> {
                for (int number = 0; number < 3; number++) {
                    house.paint(number, 1, 0, 0, 2, 2);
                }
                house.merge(layer, 1, 2);
            });
            for (int other = 0; other < 3; other++) {
                int asked = other;
                book.due(layer == other ? 4 : 0, all, h -> h.size(asked, 2), "layer " + layer);
            }
        }
    }

    private void mergeAreas() {
        book.says(5, "`area`: the area");
        book.due(4, painted(0, 0, 0, 0, 4, 1).with(h -> h.merge(0, 0, 5)), h -> h.size(0, 5), "0");
        book.due(4, painted(0, 9, 0, 0, 4, 1).with(h -> h.merge(0, 9, 5)), h -> h.size(0, 5), "9");
        book.says(5, "`into`: the other area");
        book.due(4, painted(0, 5, 0, 0, 4, 1).with(h -> h.merge(0, 5, 0)), h -> h.size(0, 0), "0");
        book.due(4, painted(0, 5, 0, 0, 4, 1).with(h -> h.merge(0, 5, 9)), h -> h.size(0, 9), "9");
    }

    private void mergeReturns() {
        book.says(5, "Returns the number of squares that change.");
        book.due(256, painted(1, 0, 0, 0, 16, 16), h -> h.merge(1, 0, 9), "all");
        book.due(1, painted(1, 0, 15, 15, 1, 1), h -> h.merge(1, 0, 9), "one");
        book.due(0, painted(1, 0, 0, 0, 16, 16), h -> h.merge(1, 5, 0), "none of it");
        book.due(0, Scene.BEGUN, h -> h.merge(1, 5, 0), "none of both");
        book.due(11, Scene.WITHIN, h -> h.merge(0, 1, 2), "its own alone");
    }

    private void mergeWrong() {
        book.says(5, "Throws `IndexOutOfBoundsException` if there is no such layer");
        book.refusedLayers(Scene.WITHIN, (h, layer) -> h.merge(layer, 1, 2));
        book.says(5, "Throws `IllegalArgumentException` if there is no such area, for either, or "
                + "both are the same");
        Scene within = Scene.WITHIN;
        book.refusedAreas(within, (h, area) -> h.merge(0, area, 2));
        book.refusedAreas(within, (h, into) -> h.merge(0, 1, into));
        book.refusedNumbers(Sentences.ARGUMENT, within, (h, area) -> h.merge(0, area, area),
                "both are", 0, 1, 8, 9, -1, 10);
        book.says(5, "Throws `IllegalStateException` if there is no session");
        Scene[] scenes = {Scene.NEW, Scene.BETWEEN, Scene.FULL, within.with(h -> h.drop())};
        for (Scene scene : scenes) {
            book.refused(Sentences.STATE, scene, h -> h.merge(0, 1, 2), "no session");
            book.refused(Sentences.STATE, scene, h -> h.merge(0, 8, 7), "no session, no squares");
        }
    }

    private void sets() {
        book.says(6, "Sets the value of an area.");
        Scene set = Scene.WITHIN.with(house -> house.setValue(0, 1, 500));
        book.due(500, set, h -> h.value(0, 1), "the value");
        book.due(29, set, h -> h.value(0, 2), "another area's value");
        book.due(500, set.with(h -> h.setValue(0, 2, 0)), h -> h.value(0, 1), "it stays");
        book.says(6, "`layer`: the layer");
        for (int each = 0; each < 3; each++) {
            int layer = each;
            Scene all = Scene.BEGUN.with(house -> {
                for (int number = 0; number < 3; number++) {
                    house.paint(number, 1, 0, 0, 2, 2);
                }
                house.setValue(layer, 1, 8);
            });
            for (int other = 0; other < 3; other++) {
                int asked = other;
                book.due(layer == other ? 8 : 0, all, h -> h.value(asked, 1), "layer " + layer);
            }
        }
        book.says(6, "`area`: the area");
        for (int each = 0; each < 10; each++) {
            int area = each;
            Scene one = painted(0, area, 0, 0, 1, 1).with(h -> h.setValue(0, area, 9));
            book.due(9, one, h -> h.value(0, area), "area " + area);
            book.due(0, one, h -> h.value(0, (area + 1) % 10), "the area beside " + area);
        }
        book.says(6, "`value`: the value, 0 to 9999");
        for (int value : new int[] {0, 1, 9998, 9999}) {
            book.due(value, painted(0, 4, 0, 0, 1, 1).with(h -> h.setValue(0, 4, value)),
                    h -> h.value(0, 4), "the value " + value);
        }
    }

    private void setReturns() {
        book.says(6, "Returns the value before.");
        Scene one = painted(0, 4, 0, 0, 1, 1);
        book.due(0, one, h -> h.setValue(0, 4, 9999), "0 at first");
        book.due(9999, one.with(h -> h.setValue(0, 4, 9999)), h -> h.setValue(0, 4, 0), "9999");
        book.due(0, one.with(h -> h.setValue(0, 4, 0)), h -> h.setValue(0, 4, 1), "0 as it was set");
        book.due(9999 + 9999, one.with(house -> {
            house.setValue(0, 4, 9999);
            house.paint(0, 5, 1, 0, 1, 1);
            house.setValue(0, 5, 9999);
            house.merge(0, 5, 4);
        }), h -> h.setValue(0, 4, 9999), "a sum that is greater than what can be set");
    }

    private void setWrong() {
        book.says(6, "Throws `IndexOutOfBoundsException` if there is no such layer");
        book.refusedLayers(Scene.WITHIN, (h, layer) -> h.setValue(layer, 1, 5));
        book.says(6, "Throws `IllegalArgumentException` if there is no such area, or the value is "
                + "out of range");
        book.refusedAreas(Scene.WITHIN, (h, area) -> h.setValue(0, area, 5));
        book.refusedNumbers(Sentences.ARGUMENT, Scene.WITHIN, (h, value) -> h.setValue(0, 1, value),
                "value", -1, 10000, Sentences.LEAST, Sentences.GREATEST);
        book.says(6, "Throws `IllegalStateException` if there is no session");
        Scene[] scenes = {Scene.NEW, Scene.BETWEEN, Scene.FULL, Scene.WITHIN.with(h -> h.drop())};
        for (Scene scene : scenes) {
            book.refused(Sentences.STATE, scene, h -> h.setValue(0, 1, 5), "no session");
            book.refused(Sentences.STATE, scene, h -> h.setValue(1, 8, 0), "no session, no squares");
        }
    }

    private void setUnsupported() {
        book.says(6, "Throws `UnsupportedOperationException` if the area has no squares");
        Class<UnsupportedOperationException> none = Sentences.UNSUPPORTED;
        book.refused(none, Scene.BEGUN, h -> h.setValue(0, 0, 1), "a new house");
        book.refused(none, Scene.WITHIN, h -> h.setValue(0, 8, 0), "the value 0");
        book.refused(none, Scene.WITHIN, h -> h.setValue(0, 8, 9999), "the value 9999");
        book.refused(none, Scene.WITHIN, h -> h.setValue(1, 1, 5), "it has some in another layer");
        book.refused(none, Scene.WITHIN.with(h -> h.paint(0, -1, 15, 15, 1, 1)),
                h -> h.setValue(0, 9, 5), "its only square is gone");
        book.due(9999, Scene.WITHIN, h -> h.setValue(0, 9, 5), "it has one square");
    }

    private void divides() {
        book.says(7, "Tells whether a layer divides or copies, from now on.");
        Scene valued = painted(1, 3, 0, 0, 2, 1).with(house -> house.setValue(1, 3, 10));
        Scene copies = valued.with(house -> {
            house.setDivides(1, false);
            house.paint(1, 4, 0, 0, 1, 1);
        });
        book.due(10, copies, h -> h.value(1, 3), "it copies from now on");
        book.due(0, copies, h -> h.value(1, 4), "it copies from now on: nothing is added");
        Scene later = valued.with(house -> {
            house.paint(1, 4, 0, 0, 1, 1);
            house.setDivides(1, false);
        });
        book.due(5, later, h -> h.value(1, 4), "what was divided before stays so");
        Scene again = copies.with(house -> {
            house.setDivides(1, true);
            house.paint(1, 3, 0, 0, 1, 1);
            house.paint(1, 4, 0, 0, 1, 1);
        });
        book.due(5, again, h -> h.value(1, 4), "it divides again");
        book.says(7, "`layer`: the layer");
        for (int each = 0; each < 3; each++) {
            int layer = each;
            for (int other = 0; other < 3; other++) {
                int asked = other;
                book.due(layer != other, Scene.NEW.with(h -> h.setDivides(layer, false)),
                        h -> h.setDivides(asked, true), "layer " + layer + ", asked for " + other);
            }
        }
        book.says(7, "`divides`: whether it divides");
        book.due(true, Scene.NEW.with(h -> h.setDivides(0, true)), h -> h.setDivides(0, true),
                "it divides");
        book.due(false, Scene.NEW.with(h -> h.setDivides(0, false)), h -> h.setDivides(0, true),
                "it copies");
    }

    private void dividesReturns() {
        book.says(7, "Returns whether it did.");
        for (int each = 0; each < 3; each++) {
            int layer = each;
            book.due(true, Scene.NEW, h -> h.setDivides(layer, false), "it did at first");
            book.due(layer == 0, Scene.WITHIN, h -> h.setDivides(layer, true), "in a session");
        }
        book.due(false, Scene.WITHIN.with(h -> h.drop()), h -> h.setDivides(1, true),
                "as it was told in a session that was dropped");
        book.due(false, Scene.FULL.with(h -> h.setDivides(2, false)), h -> h.setDivides(2, false),
                "outside of sessions");
        book.says(7, "Throws `IndexOutOfBoundsException` if there is no such layer");
        book.refusedLayers(Scene.WITHIN, (h, layer) -> h.setDivides(layer, true));
        book.refusedLayers(Scene.BETWEEN, (h, layer) -> h.setDivides(layer, false));
    }
}
