/** Promises 38 to 41: figures. */
final class FigureSentences {
    private final Sentences book;

    FigureSentences(Sentences book) {
        this.book = book;
    }

    void all() {
        values();
        covered();
        meanPiece();
        meanPieceWrong();
        isSound();
    }

    /** So many squares of a layer, by rows, belong to the area. */
    private static Scene squares(int layer, int area, int count) {
        return Scene.BEGUN.with(house -> {
            if (count >= 16) {
                house.paint(layer, area, 0, 0, 16, count / 16);
            }
            if (count % 16 > 0) {
                house.paint(layer, area, 0, count / 16, count % 16, 1);
            }
        });
    }

    private void values() {
        book.says(38, "Returns the sum of the values of all areas of a layer.");
        book.due(70L + 29 + 16 + 15 + 9999, Scene.WITHIN, h -> h.values(0), "five areas");
        book.due(82L + 29 + 16 + 9999, Scene.BETWEEN, h -> h.values(0), "four areas");
        Scene ten = Scene.BEGUN.with(house -> {
            for (int area = 0; area < 10; area++) {
                house.paint(0, area, area, 0, 1, 1);
                house.setValue(0, area, 1 << area);
            }
        });
        book.due(1023L, ten, h -> h.values(0), "ten areas");
        book.due(1023L - 512 - 1, ten.with(house -> {
            house.paint(0, -1, 0, 0, 1, 1);
            house.paint(0, -1, 9, 0, 1, 1);
        }), h -> h.values(0), "the first and the last area lose all");
        book.says(38, "`layer`: the layer");
        for (int each = 0; each < 9; each++) {
            int layer = each / 3;
            int asked = each % 3;
            book.due(layer == asked ? 8L : 0L, squares(layer, 3, 1).with(
                    h -> h.setValue(layer, 3, 8)), h -> h.values(asked), "layer " + layer);
        }
        book.says(38, "Returns the sum.");
        book.due(0L, Scene.NEW, h -> h.values(0), "0");
        book.due(99990L, Scene.BEGUN.with(house -> {
            for (int area = 0; area < 10; area++) {
                house.paint(2, area, area, 0, 1, 1);
                house.setValue(2, area, 9999);
            }
        }), h -> h.values(2), "ten times 9999");
        book.says(38, "Throws `IndexOutOfBoundsException` if there is no such layer");
        book.refusedLayers(Scene.WITHIN, (h, layer) -> h.values(layer));
        book.refusedLayers(Scene.NEW, (h, layer) -> h.values(layer));
    }

    private void covered() {
        book.says(39, "Returns the share of the squares of a layer that belong to an area.");
        book.due(65f / 256f, Scene.WITHIN, h -> h.covered(1), "two areas");
        book.due(15f / 256f, Scene.WITHIN, h -> h.covered(2), "one square less");
        book.due(16f / 256f, Scene.BETWEEN, h -> h.covered(2), "as it was");
        book.due(2f / 256f, Scene.BEGUN.with(house -> {
            house.paint(0, 0, 0, 0, 1, 1);
            house.paint(0, 9, 15, 15, 1, 1);
        }), h -> h.covered(0), "the first and the last area");
        book.says(39, "`layer`: the layer");
        for (int each = 0; each < 9; each++) {
            int layer = each / 3;
            int asked = each % 3;
            book.due(layer == asked ? 0.5f : 0f, squares(layer, 3, 128), h -> h.covered(asked),
                    "layer " + layer);
        }
        book.says(39, "Returns their number divided by 256, both converted to float.");
        for (int each = 0; each <= 256; each++) {
            int count = each;
            book.due((float) count / 256f, squares(1, each % 10, count), h -> h.covered(1),
                    count + " squares");
        }
        book.says(39, "Throws `IndexOutOfBoundsException` if there is no such layer");
        book.refusedLayers(Scene.WITHIN, (h, layer) -> h.covered(layer));
        book.refusedLayers(Scene.NEW, (h, layer) -> h.covered(layer));
    }

    private void meanPiece() {
        book.says(40, "Returns the mean size of the pieces of the overlay of two layers.");
        Scene two = Scene.BEGUN.with(house -> {
            house.paint(0, 1, 0, 0, 6, 1);
            house.paint(1, 1, 5, 0, 6, 1);
            house.paint(2, 1, 0, 0, 1, 1);
        });
        book.due(11.0 / 3.0, two, h -> h.meanPiece(0, 1), "5, 1 and 5");
        book.due(20.0, Scene.WITHIN, h -> h.meanPiece(1, 2), "64, 3, 12 and 1");
        book.says(40, "`first`: the first layer");
        book.due(3.0, two, h -> h.meanPiece(0, 2), "first 0: 1 and 5");
        book.due(3.5, two, h -> h.meanPiece(1, 2), "first 1: 1 and 6");
        book.due(3.0, two, h -> h.meanPiece(2, 0), "first 2: 1 and 5");
        book.says(40, "`second`: the second layer");
        book.due(3.0, two, h -> h.meanPiece(2, 0), "second 0");
        book.due(3.5, two, h -> h.meanPiece(2, 1), "second 1");
        book.due(3.0, two, h -> h.meanPiece(0, 2), "second 2");
        book.says(40, "Returns the sum of the sizes divided by the number of pieces, both converted to "
                + "double.");
        book.due(256.0, squares(0, 3, 256), h -> h.meanPiece(0, 1), "one piece of all squares");
        book.due(1.0, squares(0, 3, 1), h -> h.meanPiece(0, 1), "one piece of one square");
        Scene all = Scene.BEGUN.with(house -> {
            for (int line = 0; line < 16; line++) {
                house.paint(0, line % 2, line, 0, 1, 16);
                house.paint(1, line % 2, 0, line, 16, 1);
            }
        });
        book.due(1.0, all, h -> h.meanPiece(0, 1), "256 pieces");
        for (int each = 1; each <= 16; each++) {
            int lines = each;
            // Lines of one square less than the one before, so that no two have the same size.
            Scene some = Scene.BEGUN.with(house -> {
                for (int line = 0; line < lines; line++) {
                    house.paint(0, line % 2, 0, line, 16 - line, 1);
                }
            });
            int sum = lines * 16 - lines * (lines - 1) / 2;
            book.due((double) sum / (double) lines, some, h -> h.meanPiece(0, 1), lines + " lines");
        }
        book.due(7.0 / 3.0, squares(2, 3, 7).with(h -> h.paint(1, 3, 2, 0, 2, 1)),
                h -> h.meanPiece(1, 2), "a number that has no end");
    }

    private void meanPieceWrong() {
        book.says(40, "Throws `IndexOutOfBoundsException` if there is no such layer, or both are the "
                + "same");
        for (Scene scene : new Scene[] {Scene.NEW, Scene.WITHIN}) {
            book.refusedLayers(scene, (h, first) -> h.meanPiece(first, 1));
            book.refusedLayers(scene, (h, second) -> h.meanPiece(1, second));
            book.refusedNumbers(Sentences.INDEX, scene, (h, layer) -> h.meanPiece(layer, layer),
                    "both are", 0, 1, 2, 3, -1);
        }
        book.says(40, "Throws `ArithmeticException` if there are none");
        Class<ArithmeticException> none = Sentences.ARITHMETIC;
        book.refused(none, Scene.NEW, h -> h.meanPiece(0, 1), "a new house");
        book.refused(none, squares(2, 3, 256), h -> h.meanPiece(0, 1), "the third layer has some");
        book.refused(none, Scene.WITHIN.with(house -> {
            house.paint(0, -1, 0, 0, 16, 16);
            house.paint(1, -1, 0, 0, 16, 16);
        }), h -> h.meanPiece(1, 0), "all are gone");
        book.due(1.0, squares(0, 3, 1), h -> h.meanPiece(1, 0), "one");
    }

    private void isSound() {
        book.says(41, "Checks whether, for each two layers, the sizes of the pieces with an area add "
                + "up to its size; no area without squares has a value, and none a value below 0; "
                + "and, outside of a session, the squares are those by the present time.");
        Scene[] scenes = {Scene.NEW, Scene.BEGUN, Scene.BETWEEN, Scene.WITHIN, Scene.FULL,
            Scene.LAST_WITHIN, Scene.ONE_LEFT};
        for (Scene scene : scenes) {
            book.asks(true, scene, h -> h.isSound(), "a scene");
        }
        Scene within = Scene.WITHIN;
        book.due(true, within.with(h -> h.drop()), h -> h.isSound(), "behind a drop");
        book.due(true, within.with(h -> h.sign(2)).with(h -> h.keep()), h -> h.isSound(),
                "behind a keep");
        book.due(true, within.with(h -> h.reconcile(0, 'v')), h -> h.isSound(), "reconciled");
        book.due(true, within.with(h -> h.reconcile(0, 'v')).with(h -> h.drop()),
                h -> h.isSound(), "reconciled and dropped");
        book.due(true, within.with(h -> h.paint(0, -1, 0, 0, 16, 16)), h -> h.isSound(),
                "all areas of a layer lose all their squares, with their values");
        book.due(true, within.with(house -> {
            house.setDivides(0, false);
            house.merge(0, 9, 1);
        }), h -> h.isSound(), "an area of a layer that copies loses all");
        book.says(41, "Returns whether this holds.");
        book.due(true, Scene.NEW, h -> {
            boolean holds = h.isSound();
            for (int session = 0; session < 40; session++) {
                h.begin(session % 6);
                h.paint(session % 3, session % 11 - 1, session % 16, session / 3, 1, 1);
                holds = holds && h.isSound();
                if (session % 5 == 4) {
                    h.drop();
                } else {
                    h.keep();
                }
                holds = holds && h.isSound();
            }
            return holds;
        }, "behind each call of a long run");
    }
}
