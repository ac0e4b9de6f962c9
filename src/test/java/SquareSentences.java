/** Promises 14 to 18: squares, their history, and sizes and values. */
final class SquareSentences {
    private final Sentences book;

    SquareSentences(Sentences book) {
        this.book = book;
    }

    void all() {
        areaAt();
        areaAtWrong();
        areaThen();
        areaThenWrong();
        authorOf();
        authorOfWrong();
        size();
        value();
    }

    /** Each layer has another area at the first and at the last square. */
    private static final Scene CORNERS = Scene.BEGUN.with(house -> {
        for (int layer = 0; layer < 3; layer++) {
            house.paint(layer, layer, 0, 0, 1, 1);
            house.paint(layer, 9 - layer, 15, 15, 1, 1);
        }
    });

    private void areaAt() {
        book.says(14, "Returns the area of a square.");
        book.due(3, Scene.WITHIN, h -> h.areaAt(0, 34), "an area");
        book.due(6, Scene.WITHIN, h -> h.areaAt(0, 17), "as it is edited now");
        book.due(8, Scene.LAST_WITHIN, h -> h.areaAt(0, 33), "in the last session");
        book.says(14, "`layer`: the layer");
        for (int each = 0; each < 3; each++) {
            int layer = each;
            book.due(layer, CORNERS, h -> h.areaAt(layer, 0), "layer " + layer);
        }
        book.says(14, "`square`: the number of the square");
        for (int each = 0; each < 3; each++) {
            int layer = each;
            book.due(9 - layer, CORNERS, h -> h.areaAt(layer, 255), "the last square");
            book.due(-1, CORNERS, h -> h.areaAt(layer, 1), "the one beside the first");
            book.due(-1, CORNERS, h -> h.areaAt(layer, 254), "the one beside the last");
        }
        book.says(14, "Returns the area, or -1 for none.");
        book.due(-1, Scene.NEW, h -> h.areaAt(0, 0), "none at first");
        book.due(0, CORNERS, h -> h.areaAt(0, 0), "the area 0");
        book.due(9, CORNERS, h -> h.areaAt(0, 255), "the area 9");
        book.due(-1, CORNERS.with(h -> h.paint(0, -1, 0, 0, 1, 1)), h -> h.areaAt(0, 0),
                "none again");
    }

    private void areaAtWrong() {
        book.says(14, "Throws `IndexOutOfBoundsException` if there is no such layer or square");
        for (Scene scene : new Scene[] {Scene.NEW, Scene.WITHIN}) {
            book.refusedLayers(scene, (h, layer) -> h.areaAt(layer, 0));
            book.refusedSquares(scene, (h, square) -> h.areaAt(0, square));
            book.refusedSquares(scene, (h, square) -> h.areaAt(2, square));
        }
    }

    private void areaThen() {
        book.says(15, "Returns the area of a square by a time.");
        book.due(1, Scene.WITHIN, h -> h.areaThen(0, 34, 1), "by the time 1");
        book.due(3, Scene.WITHIN, h -> h.areaThen(0, 34, 2), "by the time 2");
        book.due(1, Scene.WITHIN, h -> h.areaThen(0, 17, 2), "whatever is edited now");
        book.says(15, "`layer`: the layer");
        for (int each = 0; each < 3; each++) {
            int layer = each;
            book.due(layer, CORNERS.with(h -> h.keep()), h -> h.areaThen(layer, 0, 1), "" + layer);
        }
        book.says(15, "`square`: the number of the square");
        for (int each = 0; each < 3; each++) {
            int layer = each;
            Scene kept = CORNERS.with(house -> house.keep());
            book.due(9 - layer, kept, h -> h.areaThen(layer, 255, 1), "the last square");
            book.due(-1, kept, h -> h.areaThen(layer, 254, 1), "the one beside it");
        }
        book.says(15, "`time`: the time");
        for (int each = 0; each <= 40; each++) {
            int time = each;
            // The session s, for each fourth s, gave the square s / 4 to the area s / 4.
            for (int square : new int[] {0, 1, 9}) {
                book.due(time > 4 * square ? square : -1, Scene.FULL,
                        h -> h.areaThen(0, square, time), "square " + square + " by " + time);
            }
        }
        book.says(15, "Returns the area, or -1 for none.");
        book.due(-1, Scene.FULL, h -> h.areaThen(0, 0, 0), "none by the time 0");
        book.due(0, Scene.FULL, h -> h.areaThen(0, 0, 1), "the area 0");
        book.due(9, Scene.FULL, h -> h.areaThen(0, 9, 40), "the area 9");
        book.due(-1, Scene.BETWEEN, h -> h.areaThen(0, 0, 2), "none again");
    }

    private void areaThenWrong() {
        book.says(15, "Throws `IndexOutOfBoundsException` if there is no such layer or square");
        for (Scene scene : new Scene[] {Scene.NEW, Scene.WITHIN, Scene.FULL}) {
            book.refusedLayers(scene, (h, layer) -> h.areaThen(layer, 0, 0));
            book.refusedSquares(scene, (h, square) -> h.areaThen(0, square, 0));
        }
        book.refused(Sentences.INDEX, Scene.FULL, h -> h.areaThen(0, 256, 39), "the next time's");
        book.refused(Sentences.INDEX, Scene.FULL, h -> h.areaThen(0, -1, 40), "the time's before");
        book.says(15, "Throws `IllegalArgumentException` if the time is less than 0 or has not come");
        Sentences.NumberCall then = (h, time) -> h.areaThen(0, 17, time);
        int[] far = {-1, Sentences.LEAST, Sentences.GREATEST, 41};
        book.refusedNumbers(Sentences.ARGUMENT, Scene.NEW, then, "of 0 the time", far);
        book.refusedNumbers(Sentences.ARGUMENT, Scene.NEW, then, "of 0 the time", 1, 2, 40);
        book.refusedNumbers(Sentences.ARGUMENT, Scene.BEGUN, then, "of 0 the time", 1);
        book.refusedNumbers(Sentences.ARGUMENT, Scene.WITHIN, then, "of 2 the time", 3, 4);
        book.refusedNumbers(Sentences.ARGUMENT, Scene.LAST_WITHIN, then, "of 39 the time", 40);
        book.refusedNumbers(Sentences.ARGUMENT, Scene.FULL, then, "of 40 the time", far);
        book.due(1, Scene.WITHIN, h -> h.areaThen(0, 17, 2), "the last that has come");
        book.due(-1, Scene.NEW, h -> h.areaThen(0, 17, 0), "the time 0");
    }

    private void authorOf() {
        book.says(16, "Returns the author of a square at a time.");
        book.due(4, Scene.WITHIN, h -> h.authorOf(0, 34, 2), "the last who changed it");
        book.due(1, Scene.WITHIN, h -> h.authorOf(0, 34, 1), "the one at the time before");
        book.due(1, Scene.WITHIN, h -> h.authorOf(0, 255, 2), "who changed it two times before");
        Scene two = CORNERS.with(house -> {
            house.keep();
            house.begin(5);
            house.paint(1, 3, 0, 0, 1, 1);
            house.paint(2, 3, 15, 15, 1, 1);
            house.keep();
        });
        book.says(16, "`layer`: the layer");
        book.due(0, two, h -> h.authorOf(0, 0, 2), "layer 0");
        book.due(5, two, h -> h.authorOf(1, 0, 2), "layer 1");
        book.due(0, two, h -> h.authorOf(2, 0, 2), "layer 2");
        book.says(16, "`square`: the number of the square");
        book.due(0, two, h -> h.authorOf(1, 255, 2), "the last square of layer 1");
        book.due(5, two, h -> h.authorOf(2, 255, 2), "the last square of layer 2");
        book.says(16, "`time`: the time");
        book.due(0, two, h -> h.authorOf(1, 0, 1), "the time 1");
        book.due(5, two, h -> h.authorOf(1, 0, 2), "the time 2");
        for (int each = 0; each < 10; each++) {
            int square = each;
            // The session 4 times s, by the author of its number by 6, gave the square s away.
            book.due(4 * square % 6, Scene.FULL, h -> h.authorOf(0, square, 4 * square + 1),
                    "the time of the change of square " + square);
            book.due(4 * square % 6, Scene.FULL, h -> h.authorOf(0, square, 40), "the last time");
        }
        book.says(16, "Returns the author.");
        for (int each = 0; each <= 5; each++) {
            int author = each;
            book.due(author, Scene.NEW.with(house -> {
                house.begin(author);
                house.paint(0, 0, 0, 0, 1, 1);
                house.keep();
            }), h -> h.authorOf(0, 0, 1), "the author " + author);
        }
    }

    private void authorOfWrong() {
        book.says(16, "Throws `IndexOutOfBoundsException` if there is no such layer or square");
        for (Scene scene : new Scene[] {Scene.NEW, Scene.WITHIN, Scene.FULL}) {
            book.refusedLayers(scene, (h, layer) -> h.authorOf(layer, 0, 0));
            book.refusedSquares(scene, (h, square) -> h.authorOf(0, square, 0));
        }
        book.refused(Sentences.INDEX, Scene.FULL, h -> h.authorOf(0, 256, 39), "the next time's");
        book.says(16, "Throws `IllegalArgumentException` if the time is less than 0 or has not come");
        Sentences.NumberCall author = (h, time) -> h.authorOf(0, 17, time);
        int[] far = {-1, Sentences.LEAST, Sentences.GREATEST, 41};
        book.refusedNumbers(Sentences.ARGUMENT, Scene.NEW, author, "of 0 the time", far);
        book.refusedNumbers(Sentences.ARGUMENT, Scene.NEW, author, "of 0 the time", 1);
        book.refusedNumbers(Sentences.ARGUMENT, Scene.WITHIN, author, "of 2 the time", 3);
        book.refusedNumbers(Sentences.ARGUMENT, Scene.LAST_WITHIN, author, "of 39 the time", 40);
        book.refusedNumbers(Sentences.ARGUMENT, Scene.FULL, author, "of 40 the time", far);
        book.says(16, "Throws `NoSuchElementException` if there is none");
        Class<java.util.NoSuchElementException> none = Sentences.NO_ELEMENT;
        book.refused(none, Scene.NEW, h -> h.authorOf(0, 0, 0), "the time 0 of a new house");
        book.refused(none, Scene.WITHIN, h -> h.authorOf(0, 17, 0), "the time 0");
        book.refused(none, Scene.WITHIN, h -> h.authorOf(0, 254, 2), "a square that none changed");
        book.refused(none, Scene.WITHIN, h -> h.authorOf(1, 254, 2), "not even in this session");
        book.refused(none, Scene.LAST_WITHIN, h -> h.authorOf(0, 17, 39), "changed now alone");
        book.refused(none, Scene.FULL, h -> h.authorOf(0, 9, 36), "changed at the time behind it");
        book.due(0, Scene.FULL, h -> h.authorOf(0, 9, 37), "changed at the time itself");
        book.refused(none, Scene.NEW.with(house -> {
            house.begin(3);
            house.paint(0, 0, 0, 0, 1, 1);
            house.paint(0, -1, 0, 0, 1, 1);
            house.keep();
        }), h -> h.authorOf(0, 0, 1), "given and taken in one session");
    }

    private void size() {
        book.says(17, "Returns the size of an area.");
        book.due(11, Scene.WITHIN, h -> h.size(0, 1), "as it is edited now");
        book.due(13, Scene.WITHIN.with(h -> h.drop()), h -> h.size(0, 1), "behind a drop");
        book.says(17, "`layer`: the layer");
        for (int each = 0; each < 3; each++) {
            int layer = each;
            for (int area = 0; area < 3; area++) {
                int asked = area;
                book.due(area == layer ? 1 : 0, CORNERS, h -> h.size(layer, asked), "" + layer);
            }
        }
        book.says(17, "`area`: the area");
        for (int each = 0; each < 10; each++) {
            int area = each;
            Scene one = Scene.BEGUN.with(h -> h.paint(1, area, 3, 3, 2, 2));
            book.due(4, one, h -> h.size(1, area), "area " + area);
            book.due(0, one, h -> h.size(1, (area + 1) % 10), "the one beside it");
        }
        book.says(17, "Returns the number of squares.");
        for (int each = 0; each <= 16; each++) {
            int squares = each;
            book.due(squares, Scene.BEGUN.with(house -> {
                house.paint(0, 3, 0, 0, 16, 1);
                if (squares < 16) {
                    house.paint(0, 4, squares, 0, 16 - squares, 1);
                }
            }), h -> h.size(0, 3), squares + " squares");
        }
        book.due(256, Scene.BEGUN.with(h -> h.paint(0, 3, 0, 0, 16, 16)), h -> h.size(0, 3), "all");
        book.says(17, "Throws `IndexOutOfBoundsException` if there is no such layer");
        book.refusedLayers(Scene.WITHIN, (h, layer) -> h.size(layer, 1));
        book.says(17, "Throws `IllegalArgumentException` if there is no such area");
        book.refusedAreas(Scene.WITHIN, (h, area) -> h.size(0, area));
        book.refusedAreas(Scene.NEW, (h, area) -> h.size(2, area));
    }

    private void value() {
        book.says(18, "Returns the value of an area.");
        book.due(70, Scene.WITHIN, h -> h.value(0, 1), "as it is edited now");
        book.due(82, Scene.WITHIN.with(h -> h.drop()), h -> h.value(0, 1), "behind a drop");
        book.says(18, "`layer`: the layer");
        for (int each = 0; each < 3; each++) {
            int layer = each;
            Scene one = CORNERS.with(house -> house.setValue(layer, layer, 44));
            for (int other = 0; other < 3; other++) {
                int asked = other;
                book.due(asked == layer ? 44 : 0, one, h -> h.value(asked, asked), "" + layer);
            }
        }
        book.says(18, "`area`: the area");
        for (int each = 0; each < 10; each++) {
            int area = each;
            Scene one = Scene.BEGUN.with(house -> {
                house.paint(1, area, 3, 3, 2, 2);
                house.setValue(1, area, 5 + area);
            });
            book.due(5 + area, one, h -> h.value(1, area), "area " + area);
            book.due(0, one, h -> h.value(1, (area + 1) % 10), "the one beside it");
        }
        book.says(18, "Returns the value.");
        Scene one = Scene.BEGUN.with(house -> house.paint(1, 4, 3, 3, 2, 2));
        book.due(0, one, h -> h.value(1, 4), "0 at first");
        book.due(9999, one.with(h -> h.setValue(1, 4, 9999)), h -> h.value(1, 4), "9999");
        book.due(0, one, h -> h.value(1, 5), "an area without squares");
        book.due(99990, Scene.BEGUN.with(house -> {
            for (int area = 0; area < 10; area++) {
                house.paint(0, area, area, 0, 1, 1);
                house.setValue(0, area, 9999);
            }
            for (int area = 1; area < 10; area++) {
                house.merge(0, area, 0);
            }
        }), h -> h.value(0, 0), "ten times 9999");
        book.says(18, "Throws `IndexOutOfBoundsException` if there is no such layer");
        book.refusedLayers(Scene.WITHIN, (h, layer) -> h.value(layer, 1));
        book.says(18, "Throws `IllegalArgumentException` if there is no such area");
        book.refusedAreas(Scene.WITHIN, (h, area) -> h.value(0, area));
        book.refusedAreas(Scene.NEW, (h, area) -> h.value(2, area));
    }
}
