/** Promises 29 to 33: overlays and matches. */
final class OverlaySentences {
    private final Sentences book;

    OverlaySentences(Sentences book) {
        this.book = book;
    }

    void all() {
        pieces();
        pieceSize();
        pieceSizeWrong();
        parent();
        parentWrong();
        match();
        matchWrong();
        matchKind();
        matchKindWrong();
    }

    /**
     * Layer 0: area 4 with x 0 to 3 of the rows 0 to 3; layer 1: area 0 with x 2 to 5 of the rows 1
     * and 2, and area 9 with the last square; layer 2: area 7 with the row 0. By numbers, layers 0
     * and 1 have the pieces of 4 alone (12 squares), both (4), of 0 alone (4), of 9 (1).
     */
    private static final Scene OVER = Scene.BEGUN.with(house -> {
        house.paint(0, 4, 0, 0, 4, 4);
        house.paint(1, 0, 2, 1, 4, 2);
        house.paint(1, 9, 15, 15, 1, 1);
        house.paint(2, 7, 0, 0, 16, 1);
    });

    /** OVER with one square more: each two layers have another number of pieces. */
    private static final Scene UNLIKE = OVER.with(house -> house.paint(0, 5, 10, 10, 1, 1));

    /** Each square is a piece of the layers 0 and 1; layer 0 has stripes along y, 1 along x. */
    private static final Scene ALL_PIECES = Scene.BEGUN.with(house -> {
        for (int line = 0; line < 16; line++) {
            house.paint(0, line % 10, line, 0, 1, 16);
            house.paint(1, line % 10, 0, line, 16, 1);
        }
    });

    private void refusedPairs(Sentences.NumberCall first, Sentences.NumberCall second,
            Sentences.NumberCall both) {
        book.refusedLayers(Scene.WITHIN, first);
        book.refusedLayers(Scene.WITHIN, second);
        book.refusedNumbers(Sentences.INDEX, Scene.WITHIN, both, "both are", 0, 1, 2, 3, -1);
        book.refusedNumbers(Sentences.INDEX, Scene.NEW, both, "both are", 0, 2);
    }

    private void pieces() {
        book.says(29, "Returns the number of pieces of the overlay of two layers.");
        book.due(4, OVER, h -> h.pieces(0, 1), "two areas that overlap, and one apart");
        book.due(5, OVER, h -> {
            h.paint(1, 0, 0, 2, 2, 1);
            return h.pieces(0, 1);
        }, "one that is cut in two");
        book.due(0, OVER.with(h -> h.drop()), h -> h.pieces(0, 1), "behind a drop");
        book.says(29, "`first`: the first layer");
        int[][] due = {{0, 5, 4}, {5, 0, 3}, {4, 3, 0}};
        for (int each = 0; each < 6; each++) {
            int first = each / 2;
            int second = (first + 1 + each % 2) % 3;
            book.due(due[first][second], UNLIKE, h -> h.pieces(first, second),
                    "first " + first + ", second " + second);
        }
        book.says(29, "`second`: the second layer");
        for (int each = 0; each < 6; each++) {
            int second = each / 2;
            int first = (second + 1 + each % 2) % 3;
            book.due(due[first][second], UNLIKE, h -> h.pieces(first, second),
                    "second " + second + ", first " + first);
        }
        book.says(29, "Returns the number of pieces.");
        book.due(0, Scene.NEW, h -> h.pieces(0, 1), "none");
        book.due(1, Scene.BEGUN.with(h -> h.paint(2, 0, 15, 15, 1, 1)), h -> h.pieces(1, 2), "one");
        book.due(256, ALL_PIECES, h -> h.pieces(0, 1), "all squares");
        book.due(16, ALL_PIECES, h -> h.pieces(0, 2), "all stripes");
        book.due(2, Scene.BEGUN.with(house -> {
            house.paint(0, 1, 15, 0, 1, 1);
            house.paint(0, 1, 0, 1, 1, 1);
        }), h -> h.pieces(0, 1), "the ends of two rows");
        book.says(29, "Throws `IndexOutOfBoundsException` if there is no such layer, or both are the "
                + "same");
        refusedPairs((h, first) -> h.pieces(first, 1), (h, second) -> h.pieces(1, second),
                (h, layer) -> h.pieces(layer, layer));
    }

    private void pieceSize() {
        book.says(30, "Returns the size of a piece.");
        int[] sizes = {12, 4, 4, 1};
        for (int each = 0; each < 4; each++) {
            int piece = each;
            book.due(sizes[each], OVER, h -> h.pieceSize(0, 1, piece), "piece " + each);
        }
        book.says(30, "`first`: the first layer");
        // Layers 0 and 2: both in row 0 (4), the rest of row 0 (12), the rest of area 4 (12).
        book.due(4, OVER, h -> h.pieceSize(0, 2, 0), "first 0, second 2");
        book.due(16, OVER, h -> h.pieceSize(1, 2, 0), "first 1, second 2");
        book.due(4, OVER, h -> h.pieceSize(2, 0, 0), "first 2, second 0");
        book.says(30, "`second`: the second layer");
        book.due(12, OVER, h -> h.pieceSize(0, 1, 0), "first 0, second 1");
        book.due(12, OVER, h -> h.pieceSize(0, 2, 1), "first 0, second 2");
        book.due(12, OVER, h -> h.pieceSize(1, 0, 0), "first 1, second 0");
        book.says(30, "`piece`: the number of the piece");
        for (int piece : new int[] {0, 1, 127, 254, 255}) {
            book.due(1, ALL_PIECES, h -> h.pieceSize(0, 1, piece), "piece " + piece);
        }
        book.due(16, ALL_PIECES, h -> h.pieceSize(0, 2, 15), "the last stripe");
        book.says(30, "Returns the number of squares.");
        Scene whole = Scene.BEGUN.with(house -> house.paint(0, 4, 0, 0, 16, 16));
        book.due(256, whole, h -> h.pieceSize(0, 1, 0), "all");
        book.due(255, whole.with(h -> h.paint(1, 3, 7, 7, 1, 1)), h -> h.pieceSize(0, 1, 0),
                "all but one");
        book.due(1, whole.with(h -> h.paint(1, 3, 7, 7, 1, 1)), h -> h.pieceSize(0, 1, 1), "one");
        book.due(255, whole.with(h -> h.paint(1, 3, 0, 0, 1, 1)), h -> h.pieceSize(0, 1, 1),
                "all but the first");
    }

    private void pieceSizeWrong() {
        book.says(30, "Throws `IndexOutOfBoundsException` if there is no such layer, or both are the "
                + "same");
        refusedPairs((h, first) -> h.pieceSize(first, 1, 0), (h, second) -> h.pieceSize(1, second, 0),
                (h, layer) -> h.pieceSize(layer, layer, 0));
        book.says(30, "Throws `NoSuchElementException` if there is no such piece");
        refusedPieces((h, piece) -> h.pieceSize(0, 1, piece));
    }

    private void refusedPieces(Sentences.NumberCall call) {
        int[] far = {-1, 256, Sentences.LEAST, Sentences.GREATEST};
        book.refusedNumbers(Sentences.NO_ELEMENT, Scene.NEW, call, "of none", 0, 1);
        book.refusedNumbers(Sentences.NO_ELEMENT, Scene.NEW, call, "of none", far);
        book.refusedNumbers(Sentences.NO_ELEMENT, OVER, call, "of four", 4, 5, 255);
        book.refusedNumbers(Sentences.NO_ELEMENT, OVER, call, "of four", far);
        book.refusedNumbers(Sentences.NO_ELEMENT, ALL_PIECES, call, "of 256", far);
    }

    private void parent() {
        book.says(31, "Returns the area of a piece in one of both layers.");
        int[] firsts = {4, 4, -1, -1};
        int[] seconds = {-1, 0, 0, 9};
        for (int each = 0; each < 4; each++) {
            int piece = each;
            book.due(firsts[each], OVER, h -> h.parent(0, 1, piece, false), "piece " + each);
            book.due(seconds[each], OVER, h -> h.parent(0, 1, piece, true), "piece " + each);
        }
        book.says(31, "`first`: the first layer");
        book.due(4, OVER, h -> h.parent(0, 2, 0, false), "first 0");
        book.due(-1, OVER, h -> h.parent(1, 2, 0, false), "first 1");
        book.due(7, OVER, h -> h.parent(2, 1, 0, false), "first 2");
        book.says(31, "`second`: the second layer");
        book.due(4, OVER, h -> h.parent(2, 0, 0, true), "second 0");
        book.due(-1, OVER, h -> h.parent(2, 1, 0, true), "second 1");
        book.due(7, OVER, h -> h.parent(1, 2, 0, true), "second 2");
        book.says(31, "`piece`: the number of the piece");
        for (int piece : new int[] {0, 1, 9, 10, 16, 255}) {
            book.due(piece % 16 % 10, ALL_PIECES, h -> h.parent(0, 1, piece, false), "" + piece);
            book.due(piece / 16 % 10, ALL_PIECES, h -> h.parent(0, 1, piece, true), "" + piece);
        }
        book.says(31, "`isSecond`: whether the second layer is meant");
        book.due(9, OVER, h -> h.parent(0, 1, 3, true), "it is");
        book.due(-1, OVER, h -> h.parent(0, 1, 3, false), "it is not");
        book.due(-1, OVER, h -> h.parent(1, 0, 3, true), "it is, the other way");
        book.due(9, OVER, h -> h.parent(1, 0, 3, false), "it is not, the other way");
        book.says(31, "Returns the area, or -1 for none.");
        book.due(0, OVER, h -> h.parent(0, 1, 2, true), "the area 0");
        book.due(9, OVER, h -> h.parent(0, 1, 3, true), "the area 9");
        book.due(-1, OVER, h -> h.parent(0, 1, 2, false), "none");
    }

    private void parentWrong() {
        book.says(31, "Throws `IndexOutOfBoundsException` if there is no such layer, or both are the "
                + "same");
        refusedPairs((h, first) -> h.parent(first, 1, 0, false),
                (h, second) -> h.parent(1, second, 0, true),
                (h, layer) -> h.parent(layer, layer, 0, false));
        book.says(31, "Throws `NoSuchElementException` if there is no such piece");
        refusedPieces((h, piece) -> h.parent(0, 1, piece, false));
        refusedPieces((h, piece) -> h.parent(0, 1, piece, true));
    }

    /** Area 5 of layer 0 has row 0; layer 1 has 6 squares of it, layer 2 all with the area 3. */
    private static final Scene MATCHED = Scene.BEGUN.with(house -> {
        house.paint(0, 5, 0, 0, 16, 1);
        house.paint(1, 0, 0, 0, 3, 2);
        house.paint(1, 9, 5, 0, 2, 1);
        house.paint(1, 2, 15, 0, 1, 16);
        house.paint(2, 3, 0, 0, 16, 1);
    });

    private void match() {
        book.says(32, "Returns the best match of an area in another layer.");
        book.due(0, MATCHED, h -> h.match(0, 5, 1), "3 squares are more than 2 and 1");
        book.due(9, MATCHED.with(h -> h.paint(1, 9, 5, 0, 4, 1)), h -> h.match(0, 5, 1), "4 are");
        book.due(0, MATCHED.with(h -> h.paint(1, 9, 5, 0, 3, 1)), h -> h.match(0, 5, 1),
                "of two with 3 the lower number");
        book.says(32, "`first`: the layer of the area");
        book.due(0, MATCHED, h -> h.match(2, 3, 1), "layer 2");
        book.due(5, MATCHED, h -> h.match(1, 0, 0), "layer 1");
        book.due(3, MATCHED, h -> h.match(0, 5, 2), "layer 0");
        book.says(32, "`area`: the area");
        book.due(5, MATCHED, h -> h.match(1, 0, 0), "area 0");
        book.due(5, MATCHED, h -> h.match(1, 9, 0), "area 9");
        book.due(3, MATCHED, h -> h.match(1, 2, 2), "area 2, one square in common");
        book.says(32, "`second`: the other layer");
        book.due(5, MATCHED, h -> h.match(2, 3, 0), "layer 0");
        book.due(0, MATCHED, h -> h.match(2, 3, 1), "layer 1");
        book.due(3, MATCHED, h -> h.match(1, 9, 2), "layer 2");
        book.says(32, "Returns the area there.");
        Scene last = Scene.BEGUN.with(house -> {
            house.paint(0, 0, 15, 15, 1, 1);
            house.paint(1, 9, 15, 15, 1, 1);
        });
        book.due(9, last, h -> h.match(0, 0, 1), "the area 9, of the last square");
        book.due(0, last, h -> h.match(1, 9, 0), "the area 0, of the last square");
    }

    private void matchWrong() {
        book.says(32, "Throws `IndexOutOfBoundsException` if there is no such layer, or both are the "
                + "same");
        refusedPairs((h, first) -> h.match(first, 1, 1), (h, second) -> h.match(1, 0, second),
                (h, layer) -> h.match(layer, 1, layer));
        book.says(32, "Throws `IllegalArgumentException` if there is no such area");
        book.refusedAreas(Scene.WITHIN, (h, area) -> h.match(0, area, 1));
        book.refusedAreas(Scene.NEW, (h, area) -> h.match(2, area, 1));
        book.says(32, "Throws `NoSuchElementException` if there is none");
        Class<java.util.NoSuchElementException> none = Sentences.NO_ELEMENT;
        book.refused(none, Scene.NEW, h -> h.match(0, 0, 1), "both layers have none");
        book.refused(none, MATCHED, h -> h.match(0, 4, 1), "the area has no squares");
        book.refused(none, MATCHED.with(h -> h.paint(1, -1, 0, 0, 16, 1)), h -> h.match(0, 5, 1),
                "the areas there lie beside it");
        book.refused(none, MATCHED.with(h -> h.paint(1, -1, 0, 0, 16, 16)), h -> h.match(0, 5, 1),
                "there are no areas there");
        book.due(2, MATCHED.with(h -> h.paint(1, -1, 0, 0, 15, 1)), h -> h.match(0, 5, 1),
                "one square in common");
    }

    /** Area 1 of layer 0 and area 2 of layer 1 with those sizes, and so many squares in common. */
    private static Scene sized(int one, int two, int common) {
        return Scene.BEGUN.with(house -> {
            house.paint(0, 1, 0, 0, one, 1);
            house.paint(1, 2, 0, 0, common, 1);
            if (two > common) {
                house.paint(1, 2, 0, 1, two - common, 1);
            }
        });
    }

    private void matchKind() {
        book.says(33, "Returns how sure the best match is.");
        book.due('s', sized(10, 10, 6), h -> h.matchKind(0, 1, 1), "12 is greater than both 10");
        book.due('d', sized(10, 10, 5), h -> h.matchKind(0, 1, 1), "10 is not greater than 10");
        book.due('d', sized(10, 12, 6), h -> h.matchKind(0, 1, 1), "12 is not greater than 12");
        book.due('d', sized(12, 10, 6), h -> h.matchKind(0, 1, 1), "nor the other way");
        book.due('s', sized(11, 11, 6), h -> h.matchKind(0, 1, 1), "12 is greater than both 11");
        book.due('d', sized(16, 8, 8).with(h -> h.paint(1, 3, 8, 0, 8, 1)),
                h -> h.matchKind(0, 1, 1), "two halves");
        book.says(33, "`first`: the layer of the area");
        book.due('s', MATCHED, h -> h.matchKind(2, 3, 0), "layer 2");
        book.due('d', MATCHED, h -> h.matchKind(1, 0, 0), "layer 1");
        book.due('n', MATCHED, h -> h.matchKind(0, 3, 2), "layer 0");
        book.says(33, "`area`: the area");
        book.due('s', Scene.WITHIN, h -> h.matchKind(0, 9, 1), "area 9");
        book.due('d', Scene.WITHIN, h -> h.matchKind(1, 0, 0), "area 0");
        book.due('n', Scene.WITHIN, h -> h.matchKind(0, 0, 1), "area 0 of another layer");
        book.says(33, "`second`: the other layer");
        book.due('s', MATCHED, h -> h.matchKind(0, 5, 2), "layer 2");
        book.due('d', MATCHED, h -> h.matchKind(0, 5, 1), "layer 1");
        book.due('s', MATCHED, h -> h.matchKind(2, 3, 0), "layer 0");
        book.says(33, "Returns 's', 'd', or 'n' if there is none.");
        book.due('n', Scene.NEW, h -> h.matchKind(0, 0, 1), "a new house");
        book.due('n', MATCHED, h -> h.matchKind(0, 4, 1), "an area without squares");
        book.due('n', MATCHED.with(h -> h.paint(1, -1, 0, 0, 16, 1)), h -> h.matchKind(0, 5, 1),
                "none in common");
        book.due('s', sized(1, 1, 1), h -> h.matchKind(0, 1, 1), "one square");
        book.due('d', sized(2, 1, 1), h -> h.matchKind(0, 1, 1), "one of two");
        Scene whole = Scene.BEGUN.with(house -> {
            house.paint(0, 0, 0, 0, 16, 16);
            house.paint(1, 9, 0, 0, 16, 16);
        });
        book.due('s', whole, h -> h.matchKind(0, 0, 1), "all squares");
        book.due('d', whole.with(h -> h.paint(1, -1, 0, 0, 16, 8)), h -> h.matchKind(0, 0, 1),
                "half of all squares");
    }

    private void matchKindWrong() {
        book.says(33, "Throws `IndexOutOfBoundsException` if there is no such layer, or both are the "
                + "same");
        refusedPairs((h, first) -> h.matchKind(first, 1, 1), (h, second) -> h.matchKind(1, 0, second),
                (h, layer) -> h.matchKind(layer, 1, layer));
        book.says(33, "Throws `IllegalArgumentException` if there is no such area");
        book.refusedAreas(Scene.WITHIN, (h, area) -> h.matchKind(0, area, 1));
        book.refusedAreas(Scene.NEW, (h, area) -> h.matchKind(2, area, 1));
    }
}
