/** Promises 34 to 37: coarser maps and names. */
final class CoarseAndNameSentences {
    private final Sentences book;

    CoarseAndNameSentences(Sentences book) {
        this.book = book;
    }

    void all() {
        coarse();
        coarseWrong();
        coarseAreas();
        coarseAreasWrong();
        name();
        nameWrong();
        placeOf();
        placeOfWrong();
    }

    /** In layer 0 the areas 0, 5 and 9 with 1, 3 and 6 squares in a row, and 7 with one apart. */
    private static final Scene ROW = Scene.BEGUN.with(house -> {
        house.paint(0, 0, 0, 0, 1, 1);
        house.paint(0, 5, 1, 0, 3, 1);
        house.paint(0, 9, 4, 0, 6, 1);
        house.paint(0, 7, 15, 15, 1, 1);
    });

    private void coarse() {
        book.says(34, "Returns the area to which an area belongs in the coarser map.");
        book.due(5, ROW, h -> h.coarse(0, 2, 0), "one that is joined");
        book.due(5, ROW, h -> h.coarse(0, 2, 5), "the one to which it is joined");
        book.due(9, ROW, h -> h.coarse(0, 5, 0), "one whose sum is joined again");
        book.due(7, ROW, h -> h.coarse(0, 256, 7), "one that has no border");
        book.says(34, "`layer`: the layer");
        Scene all = Scene.BEGUN.with(house -> {
            for (int layer = 0; layer < 3; layer++) {
                house.paint(layer, 4, 0, 0, 1, 1);
                house.paint(layer, 5 + layer, 1, 0, 3, 1);
            }
        });
        for (int each = 0; each < 3; each++) {
            int layer = each;
            book.due(5 + layer, all, h -> h.coarse(layer, 2, 4), "layer " + layer);
        }
        book.says(34, "`least`: the least size, 1 to 256");
        int[] leasts = {1, 2, 3, 4, 5, 6, 7, 255, 256};
        int[] ofZero = {0, 5, 5, 5, 9, 9, 9, 9, 9};
        int[] ofFive = {5, 5, 5, 5, 9, 9, 9, 9, 9};
        for (int each = 0; each < leasts.length; each++) {
            int least = leasts[each];
            book.due(ofZero[each], ROW, h -> h.coarse(0, least, 0), "area 0, least " + least);
            book.due(ofFive[each], ROW, h -> h.coarse(0, least, 5), "area 5, least " + least);
        }
        book.due(9, Scene.BEGUN.with(house -> {
            house.paint(0, 9, 0, 0, 16, 16);
            house.paint(0, 0, 0, 0, 16, 8);
        }), h -> h.coarse(0, 129, 0), "128 is smaller than 129");
        book.says(34, "`area`: the area");
        for (int each = 0; each < 10; each++) {
            int area = each;
            Scene two = Scene.BEGUN.with(house -> {
                house.paint(0, area, 0, 0, 1, 1);
                house.paint(0, (area + 1) % 10, 1, 0, 2, 1);
            });
            book.due((area + 1) % 10, two, h -> h.coarse(0, 2, area), "area " + area);
            book.due(area, two, h -> h.coarse(0, 1, area), "area " + area + ", not joined");
        }
        book.says(34, "Returns the area there.");
        book.due(0, Scene.BEGUN.with(house -> {
            house.paint(0, 9, 0, 0, 1, 1);
            house.paint(0, 0, 1, 0, 2, 1);
        }), h -> h.coarse(0, 256, 9), "the area 0");
        book.due(9, ROW, h -> h.coarse(0, 256, 0), "the area 9");
    }

    private void coarseWrong() {
        book.says(34, "Throws `IndexOutOfBoundsException` if there is no such layer");
        book.refusedLayers(Scene.WITHIN, (h, layer) -> h.coarse(layer, 5, 1));
        book.says(34, "Throws `IllegalArgumentException` if the size is out of range, or there is no "
                + "such area");
        book.refusedNumbers(Sentences.ARGUMENT, Scene.WITHIN, (h, least) -> h.coarse(0, least, 1),
                "least size", 0, -1, 257, Sentences.LEAST, Sentences.GREATEST);
        book.refusedAreas(Scene.WITHIN, (h, area) -> h.coarse(0, 5, area));
        book.refusedAreas(Scene.NEW, (h, area) -> h.coarse(0, 5, area));
        book.refused(Sentences.ARGUMENT, Scene.NEW, h -> h.coarse(0, 0, 0), "without squares too");
        book.says(34, "Throws `NoSuchElementException` if it has no squares");
        Class<java.util.NoSuchElementException> none = Sentences.NO_ELEMENT;
        book.refused(none, Scene.NEW, h -> h.coarse(0, 1, 0), "a new house");
        book.refused(none, Scene.WITHIN, h -> h.coarse(0, 256, 8), "others have some");
        book.refused(none, ROW.with(h -> h.paint(0, 5, 0, 0, 1, 1)), h -> h.coarse(0, 2, 0),
                "its only square is gone");
        book.refused(none, Scene.WITHIN, h -> h.coarse(1, 5, 1), "it has some in another layer");
        book.due(7, ROW, h -> h.coarse(0, 1, 7), "it has one");
    }

    private void coarseAreas() {
        book.says(35, "Returns the number of areas that have squares in the coarser map.");
        book.due(4, ROW, h -> h.coarseAreas(0, 1), "none is joined");
        book.due(3, ROW, h -> h.coarseAreas(0, 2), "one is joined");
        book.due(2, ROW, h -> h.coarseAreas(0, 256), "one has no border");
        book.says(35, "`layer`: the layer");
        Scene all = Scene.BEGUN.with(house -> {
            for (int layer = 0; layer < 3; layer++) {
                for (int area = 0; area <= layer; area++) {
                    house.paint(layer, area, 3 * area, 0, 1, 1);
                }
            }
        });
        for (int each = 0; each < 3; each++) {
            int layer = each;
            book.due(1 + layer, all, h -> h.coarseAreas(layer, 9), "layer " + layer);
        }
        book.says(35, "`least`: the least size, 1 to 256");
        int[] leasts = {1, 2, 4, 5, 6, 7, 256};
        int[] due = {4, 3, 3, 2, 2, 2, 2};
        for (int each = 0; each < leasts.length; each++) {
            int least = leasts[each];
            book.due(due[each], ROW, h -> h.coarseAreas(0, least), "least size " + least);
        }
        Scene halves = Scene.BEGUN.with(house -> {
            house.paint(0, 9, 0, 0, 16, 16);
            house.paint(0, 0, 0, 0, 16, 8);
        });
        book.due(2, halves, h -> h.coarseAreas(0, 128), "128 is not smaller than 128");
        book.due(1, halves, h -> h.coarseAreas(0, 129), "128 is smaller than 129");
        book.says(35, "Returns the number of areas.");
        book.due(0, Scene.NEW, h -> h.coarseAreas(0, 1), "none");
        book.due(1, Scene.BEGUN.with(h -> h.paint(0, 9, 0, 0, 16, 16)), h -> h.coarseAreas(0, 256),
                "one with all squares");
        Scene ten = Scene.BEGUN.with(house -> {
            for (int area = 0; area < 10; area++) {
                house.paint(0, area, area, 0, 1, 1);
            }
        });
        book.due(10, ten, h -> h.coarseAreas(0, 1), "ten");
        // 0 goes to 1, 2 to the sum of both, 3 to that, and so on, as the least size goes first.
        book.due(1, ten, h -> h.coarseAreas(0, 10), "ten that become one");
        book.due(10, Scene.BEGUN.with(house -> {
            for (int area = 0; area < 10; area++) {
                house.paint(0, area, area, area, 1, 1);
            }
        }), h -> h.coarseAreas(0, 256), "ten at corners");
    }

    private void coarseAreasWrong() {
        book.says(35, "Throws `IndexOutOfBoundsException` if there is no such layer");
        book.refusedLayers(Scene.WITHIN, (h, layer) -> h.coarseAreas(layer, 5));
        book.says(35, "Throws `IllegalArgumentException` if the size is out of range");
        for (Scene scene : new Scene[] {Scene.NEW, Scene.WITHIN}) {
            book.refusedNumbers(Sentences.ARGUMENT, scene, (h, least) -> h.coarseAreas(0, least),
                    "least size", 0, -1, 257, Sentences.LEAST, Sentences.GREATEST);
        }
    }

    private void name() {
        book.says(36, "Gives an area a name.");
        book.due(16 * 3 + 1, Scene.BEGUN.with(house -> {
            house.paint(0, 1, 0, 3, 4, 1);
            house.name(0, 1, 1);
        }), h -> h.placeOf(0, 1), "it is placed");
        book.due(5, Scene.NEW.with(h -> h.name(0, 1, 5)), h -> h.name(0, 1, 5), "no squares");
        book.due(5, Scene.WITHIN.with(h -> h.name(0, 1, 5)), h -> h.name(0, 1, 5), "a session");
        book.due(5, Scene.WITHIN.with(h -> h.name(0, 1, 5)).with(h -> h.drop()),
                h -> h.name(0, 1, 5), "behind a drop");
        book.says(36, "`layer`: the layer");
        for (int each = 0; each < 9; each++) {
            int layer = each / 3;
            int asked = each % 3;
            book.due(layer == asked ? 4 : 0, Scene.NEW.with(h -> h.name(layer, 1, 4)),
                    h -> h.name(asked, 1, 0), "layer " + layer + ", asked for " + asked);
        }
        book.says(36, "`area`: the area");
        for (int each = 0; each < 10; each++) {
            int area = each;
            Scene one = Scene.NEW.with(h -> h.name(2, area, 4));
            book.due(4, one, h -> h.name(2, area, 0), "area " + area);
            book.due(0, one, h -> h.name(2, (area + 1) % 10, 0), "one beside it");
        }
        book.says(36, "`length`: the length, 1 to 6, or 0 for no name, as at first");
        for (int each = 0; each <= 6; each++) {
            int length = each;
            Scene one = Scene.BEGUN.with(house -> {
                house.paint(0, 1, 0, 0, 6, 1);
                house.name(0, 1, 3);
                house.name(0, 1, length);
            });
            book.due(length, one, h -> h.name(0, 1, 0), "the length " + length);
            book.due(length > 0, one, h -> Sentences.answer(h, house -> house.placeOf(0, 1))
                    instanceof Integer, "a name of " + length + " is placed");
        }
        book.due(0, Scene.NEW, h -> h.name(0, 1, 6), "no name at first");
        book.says(36, "Returns the length before.");
        book.due(3, Scene.BETWEEN, h -> h.name(0, 1, 6), "3");
        book.due(6, Scene.BETWEEN, h -> h.name(1, 0, 0), "6");
        book.due(0, Scene.BETWEEN, h -> h.name(0, 3, 6), "no name");
        book.due(0, Scene.BETWEEN.with(h -> h.name(0, 1, 0)), h -> h.name(0, 1, 1), "none again");
        book.due(3, Scene.BETWEEN, h -> h.name(0, 1, 3), "the same");
    }

    private void nameWrong() {
        book.says(36, "Throws `IndexOutOfBoundsException` if there is no such layer");
        book.refusedLayers(Scene.WITHIN, (h, layer) -> h.name(layer, 1, 4));
        book.says(36, "Throws `IllegalArgumentException` if there is no such area, or the length is "
                + "out of range");
        book.refusedAreas(Scene.WITHIN, (h, area) -> h.name(0, area, 4));
        book.refusedNumbers(Sentences.ARGUMENT, Scene.WITHIN, (h, length) -> h.name(0, 1, length),
                "length", -1, 7, Sentences.LEAST, Sentences.GREATEST);
        book.refusedNumbers(Sentences.ARGUMENT, Scene.BETWEEN, (h, length) -> h.name(0, 9, length),
                "length", -1, 7);
    }

    private void placeOf() {
        book.says(37, "Returns the first square on which the name of an area is placed.");
        Scene wide = Scene.BEGUN.with(house -> {
            house.paint(0, 1, 3, 2, 9, 3);
            house.name(0, 1, 4);
        });
        // The middle is x 7, y 3; x 5 plus 2 is 7.
        book.due(16 * 3 + 5, wide, h -> h.placeOf(0, 1), "a name of 4");
        book.due(16 * 3 + 7, wide.with(h -> h.name(0, 1, 1)), h -> h.placeOf(0, 1), "one of 1");
        book.due(16 * 3 + 4, wide.with(h -> h.name(0, 1, 6)), h -> h.placeOf(0, 1), "one of 6");
        book.due(16 * 2 + 5, wide.with(h -> h.paint(0, 2, 5, 3, 4, 1)), h -> h.placeOf(0, 1),
                "the next place, as the area changed");
        book.says(37, "`layer`: the layer");
        Scene all = Scene.BEGUN.with(house -> {
            for (int layer = 0; layer < 3; layer++) {
                house.paint(layer, 4, 2 * layer, layer, 2, 1);
                house.name(layer, 4, 2);
            }
        });
        for (int each = 0; each < 3; each++) {
            int layer = each;
            book.due(18 * layer, all, h -> h.placeOf(layer, 4), "layer " + layer);
        }
        book.says(37, "`area`: the area");
        Scene ten = Scene.BEGUN.with(house -> {
            for (int area = 0; area < 10; area++) {
                house.paint(0, area, area, area, 3, 1);
                house.name(0, area, 1);
            }
        });
        for (int each = 0; each < 10; each++) {
            int area = each;
            // Each name lies at a corner of the one before.
            book.due(17 * area + 1, ten, h -> h.placeOf(0, area), "area " + area);
        }
        book.says(37, "Returns the number of the square.");
        book.due(0, Scene.BEGUN.with(house -> {
            house.paint(0, 9, 0, 0, 1, 1);
            house.name(0, 9, 1);
        }), h -> h.placeOf(0, 9), "the first one");
        book.due(255, Scene.BEGUN.with(house -> {
            house.paint(2, 0, 15, 15, 1, 1);
            house.name(2, 0, 1);
        }), h -> h.placeOf(2, 0), "the last one");
        book.due(250, Scene.BEGUN.with(house -> {
            house.paint(2, 0, 10, 15, 6, 1);
            house.name(2, 0, 6);
        }), h -> h.placeOf(2, 0), "the last one of six");
    }

    private void placeOfWrong() {
        book.says(37, "Throws `IndexOutOfBoundsException` if there is no such layer");
        book.refusedLayers(Scene.WITHIN, (h, layer) -> h.placeOf(layer, 1));
        book.says(37, "Throws `IllegalArgumentException` if there is no such area");
        book.refusedAreas(Scene.WITHIN, (h, area) -> h.placeOf(0, area));
        book.refusedAreas(Scene.NEW, (h, area) -> h.placeOf(0, area));
        book.says(37, "Throws `NoSuchElementException` if it has no name, or it is not placed");
        Class<java.util.NoSuchElementException> none = Sentences.NO_ELEMENT;
        book.refused(none, Scene.NEW, h -> h.placeOf(0, 0), "no name, no squares");
        book.refused(none, Scene.NEW.with(h -> h.name(0, 0, 1)), h -> h.placeOf(0, 0), "no squares");
        book.refused(none, Scene.WITHIN, h -> h.placeOf(0, 9), "no name");
        book.refused(none, Scene.WITHIN.with(h -> h.name(0, 1, 0)), h -> h.placeOf(0, 1),
                "no name any more");
        book.refused(none, Scene.WITHIN.with(h -> h.name(0, 9, 2)), h -> h.placeOf(0, 9),
                "a name of 2 on one square");
        book.due(255, Scene.WITHIN.with(h -> h.name(0, 9, 1)), h -> h.placeOf(0, 9),
                "a name of 1 on one square");
        book.refused(none, Scene.BEGUN.with(house -> {
            house.paint(0, 0, 0, 0, 1, 1);
            house.paint(0, 9, 1, 0, 1, 1);
            house.name(0, 0, 1);
            house.name(0, 9, 1);
        }), h -> h.placeOf(0, 9), "beside the name of another area");
    }
}
