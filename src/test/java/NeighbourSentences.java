/** Promises 19 to 23: rims, borders, distances, nearest areas and belts. */
final class NeighbourSentences {
    private final Sentences book;

    NeighbourSentences(Sentences book) {
        this.book = book;
    }

    void all() {
        rim();
        rimWrong();
        border();
        borderWrong();
        distance();
        distanceWrong();
        nearest();
        nearestWrong();
        belt();
        beltWrong();
    }

    private static Scene painted(int layer, int area, int x, int y, int dx, int dy) {
        return Scene.BEGUN.with(house -> house.paint(layer, area, x, y, dx, dy));
    }

    /** In this layer alone: the area 0 with the square 0, the area 9 with the two beside it. */
    private static Scene corner(int layer) {
        return painted(layer, 0, 0, 0, 1, 1).with(house -> house.paint(layer, 9, 1, 0, 2, 1));
    }

    private void rim() {
        book.says(19, "Returns the rim of an area.");
        book.due(4, painted(0, 1, 7, 7, 1, 1), h -> h.rim(0, 1), "one square");
        book.due(10, painted(0, 1, 7, 7, 3, 2), h -> h.rim(0, 1), "a box of 3 by 2");
        book.due(8, painted(0, 1, 7, 7, 1, 1).with(h -> h.paint(0, 1, 8, 8, 1, 1)),
                h -> h.rim(0, 1), "two squares at a corner");
        book.due(8, painted(0, 1, 15, 0, 1, 1).with(h -> h.paint(0, 1, 0, 1, 1, 1)),
                h -> h.rim(0, 1), "the ends of two rows");
        book.due(8, painted(0, 1, 0, 0, 1, 1).with(h -> h.paint(0, 1, 0, 15, 1, 1)),
                h -> h.rim(0, 1), "the ends of a column");
        book.due(12, painted(0, 1, 7, 7, 3, 3).with(h -> h.paint(0, 2, 6, 6, 5, 1)),
                h -> h.rim(0, 1), "beside another area");
        book.says(19, "`layer`: the layer");
        for (int each = 0; each < 9; each++) {
            int layer = each / 3;
            int asked = each % 3;
            book.due(layer == asked ? 6 : 0, corner(layer), h -> h.rim(asked, 9), "" + layer);
        }
        book.says(19, "`area`: the area");
        for (int each = 0; each < 10; each++) {
            int area = each;
            book.due(8, painted(0, area, 0, 0, 3, 1), h -> h.rim(0, area), "area " + area);
            book.due(0, painted(0, area, 0, 0, 3, 1), h -> h.rim(0, 9 - area), "the one across");
        }
        book.says(19, "Returns the number of sides.");
        book.due(0, Scene.NEW, h -> h.rim(0, 0), "an area without squares");
        book.due(64, painted(0, 5, 0, 0, 16, 16), h -> h.rim(0, 5), "an area with all squares");
        book.due(4, painted(0, 5, 0, 0, 1, 1), h -> h.rim(0, 5), "the first square");
        book.due(4, painted(0, 5, 15, 15, 1, 1), h -> h.rim(0, 5), "the last square");
        book.due(512, Scene.BEGUN.with(house -> {
            for (int square = 0; square < 128; square++) {
                house.paint(0, 5, 2 * (square % 8) + square / 8 % 2, square / 8, 1, 1);
            }
        }), h -> h.rim(0, 5), "the greatest number");
    }

    private void rimWrong() {
        book.says(19, "Throws `IndexOutOfBoundsException` if there is no such layer");
        book.refusedLayers(Scene.WITHIN, (h, layer) -> h.rim(layer, 1));
        book.says(19, "Throws `IllegalArgumentException` if there is no such area");
        book.refusedAreas(Scene.WITHIN, (h, area) -> h.rim(0, area));
    }

    private void border() {
        book.says(20, "Returns the border of two areas.");
        book.due(1, corner(0), h -> h.border(0, 0, 9), "one pair");
        book.due(3, painted(0, 1, 4, 4, 3, 1).with(h -> h.paint(0, 2, 4, 5, 3, 1)),
                h -> h.border(0, 1, 2), "three pairs along y");
        book.due(0, painted(0, 1, 4, 4, 3, 1).with(h -> h.paint(0, 2, 7, 5, 3, 1)),
                h -> h.border(0, 1, 2), "at a corner alone");
        book.due(0, painted(0, 1, 15, 4, 1, 1).with(h -> h.paint(0, 2, 0, 5, 1, 1)),
                h -> h.border(0, 1, 2), "the ends of two rows");
        book.due(0, painted(0, 1, 4, 0, 1, 1).with(h -> h.paint(0, 2, 4, 15, 1, 1)),
                h -> h.border(0, 1, 2), "the ends of a column");
        book.says(20, "`layer`: the layer");
        for (int each = 0; each < 9; each++) {
            int layer = each / 3;
            int asked = each % 3;
            book.due(layer == asked ? 1 : 0, corner(layer), h -> h.border(asked, 9, 0), "" + layer);
        }
        book.says(20, "`area`: an area");
        for (int each = 1; each < 10; each++) {
            int area = each;
            Scene two = painted(1, area, 8, 8, 2, 2).with(h -> h.paint(1, 0, 8, 7, 2, 1));
            book.due(2, two, h -> h.border(1, area, 0), "area " + area);
            book.due(0, two, h -> h.border(1, area % 9 + 1, 0), "one beside " + area);
        }
        book.says(20, "`other`: another area");
        for (int each = 0; each < 9; each++) {
            int other = each;
            Scene two = painted(1, other, 8, 8, 2, 2).with(h -> h.paint(1, 9, 8, 7, 2, 1));
            book.due(2, two, h -> h.border(1, 9, other), "other " + other);
            book.due(0, two, h -> h.border(1, 9, (other + 1) % 9), "one beside " + other);
        }
        book.says(20, "Returns the number of pairs.");
        book.due(0, Scene.NEW, h -> h.border(0, 0, 1), "two areas without squares");
        book.due(0, corner(0), h -> h.border(0, 0, 5), "one area without squares");
        book.due(4, painted(0, 0, 0, 0, 16, 16).with(h -> h.paint(0, 9, 8, 8, 1, 1)),
                h -> h.border(0, 0, 9), "one square in all the others");
        book.due(2, painted(0, 0, 0, 0, 16, 16).with(h -> h.paint(0, 9, 15, 15, 1, 1)),
                h -> h.border(0, 9, 0), "the last square and all the others");
        book.due(480, painted(0, 1, 0, 0, 16, 16).with(house -> {
            for (int square = 0; square < 128; square++) {
                house.paint(0, 5, 2 * (square % 8) + square / 8 % 2, square / 8, 1, 1);
            }
        }), h -> h.border(0, 1, 5), "the greatest number");
    }

    private void borderWrong() {
        book.says(20, "Throws `IndexOutOfBoundsException` if there is no such layer");
        book.refusedLayers(Scene.WITHIN, (h, layer) -> h.border(layer, 1, 2));
        book.says(20, "Throws `IllegalArgumentException` if there is no such area, for either, or "
                + "both are the same");
        book.refusedAreas(Scene.WITHIN, (h, area) -> h.border(0, area, 1));
        book.refusedAreas(Scene.WITHIN, (h, other) -> h.border(0, 1, other));
        book.refusedNumbers(Sentences.ARGUMENT, Scene.WITHIN, (h, area) -> h.border(0, area, area),
                "both are", 0, 1, 8, 9, -1, 10);
    }

    private void distance() {
        book.says(21, "Returns the distance of two areas.");
        book.due(1, corner(0), h -> h.distance(0, 0, 9), "neighbours");
        book.due(2, painted(0, 0, 3, 3, 1, 1).with(h -> h.paint(0, 9, 4, 4, 1, 1)),
                h -> h.distance(0, 0, 9), "at a corner");
        book.due(16, painted(0, 0, 15, 3, 1, 1).with(h -> h.paint(0, 9, 0, 4, 1, 1)),
                h -> h.distance(0, 0, 9), "the ends of two rows");
        book.due(8, painted(0, 0, 0, 0, 4, 4).with(h -> h.paint(0, 9, 8, 6, 4, 4)),
                h -> h.distance(0, 0, 9), "two boxes");
        book.says(21, "`layer`: the layer");
        for (int each = 0; each < 3; each++) {
            int layer = each;
            Scene all = Scene.BEGUN.with(house -> {
                for (int number = 0; number < 3; number++) {
                    house.paint(number, 0, 0, 0, 1, 1);
                    house.paint(number, 9, 3 + number, 0, 1, 1);
                }
            });
            book.due(3 + layer, all, h -> h.distance(layer, 0, 9), "layer " + layer);
        }
        Scene ten = Scene.BEGUN.with(house -> {
            for (int area = 0; area < 10; area++) {
                house.paint(2, area, area, area, 1, 1);
            }
        });
        book.says(21, "`area`: an area");
        for (int each = 1; each < 10; each++) {
            int area = each;
            book.due(2 * area, ten, h -> h.distance(2, area, 0), "from " + area + " to 0");
        }
        book.says(21, "`other`: another area");
        for (int each = 0; each < 9; each++) {
            int other = each;
            book.due(18 - 2 * other, ten, h -> h.distance(2, 9, other), "from 9 to " + other);
        }
        book.says(21, "Returns the number of steps.");
        book.due(1, corner(0), h -> h.distance(0, 9, 0), "the least number");
        book.due(30, painted(0, 0, 0, 0, 1, 1).with(h -> h.paint(0, 9, 15, 15, 1, 1)),
                h -> h.distance(0, 0, 9), "the greatest number");
        book.due(30, painted(0, 0, 15, 0, 1, 1).with(h -> h.paint(0, 9, 0, 15, 1, 1)),
                h -> h.distance(0, 9, 0), "the greatest number, the other corners");
    }

    private void distanceWrong() {
        book.says(21, "Throws `IndexOutOfBoundsException` if there is no such layer");
        book.refusedLayers(Scene.WITHIN, (h, layer) -> h.distance(layer, 1, 2));
        book.says(21, "Throws `IllegalArgumentException` if there is no such area, for either, or "
                + "both are the same");
        book.refusedAreas(Scene.WITHIN, (h, area) -> h.distance(0, area, 1));
        book.refusedAreas(Scene.WITHIN, (h, other) -> h.distance(0, 1, other));
        book.refusedNumbers(Sentences.ARGUMENT, Scene.WITHIN,
                (h, area) -> h.distance(0, area, area), "both are", 0, 1, 8, 9, -1, 10);
        book.says(21, "Throws `NoSuchElementException` if one of them has no squares");
        Class<java.util.NoSuchElementException> none = Sentences.NO_ELEMENT;
        book.refused(none, Scene.WITHIN, h -> h.distance(0, 1, 8), "the other one");
        book.refused(none, Scene.WITHIN, h -> h.distance(0, 8, 1), "the first one");
        book.refused(none, Scene.WITHIN, h -> h.distance(0, 7, 8), "both");
        book.refused(none, Scene.NEW, h -> h.distance(2, 0, 9), "both, in a new house");
        book.refused(none, painted(0, 1, 0, 0, 16, 16), h -> h.distance(0, 1, 2), "one has all");
        book.due(20, Scene.WITHIN, h -> h.distance(0, 9, 2), "one has one square");
    }

    private void nearest() {
        book.says(22, "Returns the area that is nearest to another one, of several the one with the "
                + "lowest number.");
        // The areas 3, 0 and 9 at so many squares from 5, to the left, to the right and below.
        int[][] cases = {{1, 1, 1, 0}, {1, 2, 2, 3}, {2, 1, 2, 0}, {2, 2, 1, 9}, {1, 2, 1, 3},
            {4, 4, 3, 9}, {4, 3, 3, 0}, {3, 4, 3, 3}, {7, 7, 7, 0}, {5, 6, 7, 3}};
        for (int[] each : cases) {
            Scene scene = painted(0, 5, 8, 8, 1, 1).with(house -> {
                house.paint(0, 3, 8 - each[0], 8, 1, 1);
                house.paint(0, 0, 8 + each[1], 8, 1, 1);
                house.paint(0, 9, 8, 8 + each[2], 1, 1);
            });
            book.due(each[3], scene, h -> h.nearest(0, 5), java.util.Arrays.toString(each));
        }
        book.due(0, painted(0, 5, 8, 8, 1, 1).with(house -> {
            house.paint(0, 3, 9, 9, 1, 1);
            house.paint(0, 0, 8, 10, 1, 1);
        }), h -> h.nearest(0, 5), "a corner is two steps away");
        book.due(4, painted(0, 5, 15, 3, 1, 1).with(house -> {
            house.paint(0, 0, 0, 4, 1, 1);
            house.paint(0, 4, 0, 3, 1, 1);
        }), h -> h.nearest(0, 5), "rows do not hang together at their ends");
        book.says(22, "`layer`: the layer");
        Scene all = Scene.BEGUN.with(house -> {
            for (int layer = 0; layer < 3; layer++) {
                house.paint(layer, 5, 0, 0, 1, 1);
                house.paint(layer, 6 + layer, 4, 4, 1, 1);
            }
        });
        for (int each = 0; each < 3; each++) {
            int layer = each;
            book.due(6 + layer, all, h -> h.nearest(layer, 5), "layer " + layer);
        }
        book.says(22, "`area`: the area");
        Scene ten = Scene.BEGUN.with(house -> {
            for (int area = 0; area < 10; area++) {
                house.paint(0, area, 0, area + area * area / 20, 1, 1);
            }
        });
        // At y 0, 1, 2, 3, 4, 6, 7, 9, 11 and 13.
        int[] due = {1, 0, 1, 2, 3, 6, 5, 6, 7, 8};
        for (int each = 0; each < 10; each++) {
            int area = each;
            book.due(due[each], ten, h -> h.nearest(0, area), "area " + area);
        }
        book.says(22, "Returns the nearest area.");
        book.due(9, painted(0, 0, 0, 0, 1, 1).with(h -> h.paint(0, 9, 15, 15, 1, 1)),
                h -> h.nearest(0, 0), "the area 9, 30 steps away");
        book.due(0, painted(0, 0, 0, 0, 1, 1).with(h -> h.paint(0, 9, 15, 15, 1, 1)),
                h -> h.nearest(0, 9), "the area 0, 30 steps away");
    }

    private void nearestWrong() {
        book.says(22, "Throws `IndexOutOfBoundsException` if there is no such layer");
        book.refusedLayers(Scene.WITHIN, (h, layer) -> h.nearest(layer, 1));
        book.says(22, "Throws `IllegalArgumentException` if there is no such area");
        book.refusedAreas(Scene.WITHIN, (h, area) -> h.nearest(0, area));
        book.refusedAreas(Scene.NEW, (h, area) -> h.nearest(0, area));
        book.says(22, "Throws `NoSuchElementException` if it, or each other one, has no squares");
        Class<java.util.NoSuchElementException> none = Sentences.NO_ELEMENT;
        book.refused(none, Scene.WITHIN, h -> h.nearest(0, 8), "it has none");
        book.refused(none, Scene.WITHIN, h -> h.nearest(2, 5), "each other one has none");
        book.refused(none, Scene.WITHIN, h -> h.nearest(2, 0), "it has none, one other one has");
        book.refused(none, Scene.NEW, h -> h.nearest(0, 0), "no area has any");
        book.refused(none, painted(0, 1, 0, 0, 16, 16), h -> h.nearest(0, 1), "it has all");
        book.refused(none, painted(0, 1, 0, 0, 16, 16), h -> h.nearest(0, 0), "another has all");
        book.due(0, Scene.WITHIN, h -> h.nearest(1, 9), "one other one has some");
    }

    private void belt() {
        book.says(23, "Returns the number of squares in the belt of an area.");
        book.due(4, painted(0, 1, 7, 7, 1, 1), h -> h.belt(0, 1, 1), "one square");
        book.due(2, painted(0, 1, 0, 0, 1, 1), h -> h.belt(0, 1, 1), "the first square");
        book.due(2, painted(0, 1, 15, 15, 1, 1), h -> h.belt(0, 1, 1), "the last square");
        book.due(12, painted(0, 1, 7, 7, 3, 3), h -> h.belt(0, 1, 1), "a box");
        book.due(12 + 16, painted(0, 1, 7, 7, 3, 3), h -> h.belt(0, 1, 2), "two around a box");
        book.due(12, painted(0, 1, 7, 7, 3, 3).with(h -> h.paint(0, 2, 6, 6, 5, 1)),
                h -> h.belt(0, 1, 1), "squares of another area are of it too");
        book.due(13, painted(0, 1, 7, 7, 3, 3).with(h -> h.paint(0, 2, 8, 8, 1, 1)),
                h -> h.belt(0, 1, 1), "a hole is of it too");
        book.due(6, painted(0, 1, 6, 7, 1, 1).with(h -> h.paint(0, 1, 7, 8, 1, 1)),
                h -> h.belt(0, 1, 1), "squares beside two of the area count once");
        book.says(23, "`layer`: the layer");
        for (int each = 0; each < 9; each++) {
            int layer = each / 3;
            int asked = each % 3;
            book.due(layer == asked ? 4 : 0, corner(layer), h -> h.belt(asked, 9, 1), "" + layer);
        }
        book.says(23, "`area`: the area");
        for (int each = 0; each < 10; each++) {
            int area = each;
            book.due(3, painted(0, area, 0, 7, 1, 1), h -> h.belt(0, area, 1), "area " + area);
            book.due(0, painted(0, area, 0, 7, 1, 1), h -> h.belt(0, 9 - area, 1), "one across");
        }
        book.says(23, "`width`: the width, 1 to 30");
        int squares = 0;
        for (int each = 1; each <= 30; each++) {
            int width = each;
            squares += Math.min(width + 1, 31 - width);
            book.due(squares, painted(0, 1, 0, 15, 1, 1), h -> h.belt(0, 1, width), "" + width);
        }
        book.says(23, "Returns the number of squares.");
        book.due(0, Scene.NEW, h -> h.belt(0, 1, 30), "an area without squares");
        book.due(0, painted(0, 1, 0, 0, 16, 16), h -> h.belt(0, 1, 30), "an area with all");
        book.due(255, painted(0, 1, 15, 0, 1, 1), h -> h.belt(0, 1, 30), "all but one");
        book.due(1, painted(0, 1, 0, 0, 16, 16).with(h -> h.paint(0, 9, 0, 0, 1, 1)),
                h -> h.belt(0, 1, 1), "one");
    }

    private void beltWrong() {
        book.says(23, "Throws `IndexOutOfBoundsException` if there is no such layer");
        book.refusedLayers(Scene.WITHIN, (h, layer) -> h.belt(layer, 1, 1));
        book.says(23, "Throws `IllegalArgumentException` if there is no such area, or the width is "
                + "out of range");
        book.refusedAreas(Scene.WITHIN, (h, area) -> h.belt(0, area, 1));
        book.refusedNumbers(Sentences.ARGUMENT, Scene.WITHIN, (h, width) -> h.belt(0, 1, width),
                "width", 0, -1, 31, Sentences.LEAST, Sentences.GREATEST);
        book.refusedNumbers(Sentences.ARGUMENT, Scene.NEW, (h, width) -> h.belt(0, 1, width),
                "width", 0, 31);
    }
}
