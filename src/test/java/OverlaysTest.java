/** Promises 29 to 33: overlays and matches. */
public final class OverlaysTest {
    private static final Class<IndexOutOfBoundsException> INDEX = IndexOutOfBoundsException.class;
    private static final Class<IllegalArgumentException> ARGUMENT = IllegalArgumentException.class;
    private static final Class<java.util.NoSuchElementException> NO_ELEMENT =
            java.util.NoSuchElementException.class;

    private static final Checks check = new Checks("OverlaysTest");

    public static void main(String[] args) {
        pieces();
        manyPieces();
        pieceSize();
        parent();
        match();
        matchKind();
        check.end();
    }

    /** Layer 0: area 1 left of area 2; layer 1: a box over the middle of both, and one apart. */
    private static Overlayer twoLayers() {
        Overlayer house = new Overlayer();
        house.begin(0);
        house.paint(0, 1, 2, 2, 3, 3);
        house.paint(0, 2, 5, 2, 3, 3);
        house.paint(1, 7, 4, 3, 2, 1);
        house.paint(1, 7, 0, 15, 2, 1);
        return house;
    }

    private static void pieces() {
        check.promise(29);
        Overlayer house = twoLayers();
        check.due(5, () -> house.pieces(0, 1), "two less the box, two in the box, one apart");
        check.due(5, () -> house.pieces(1, 0), "the other way round");
        check.due(2, () -> house.pieces(0, 2), "over a layer without areas");
        check.due(2, () -> house.pieces(2, 1), "none in the first one");
        house.paint(1, 7, 4, 0, 1, 16);
        check.due(7, () -> house.pieces(0, 1), "a line cuts off");
        check.fails(INDEX, () -> house.pieces(0, 0), "both the same");
        check.fails(INDEX, () -> house.pieces(3, 0), "first 3");
        check.fails(INDEX, () -> house.pieces(0, 3), "second 3");
        check.fails(INDEX, () -> house.pieces(-1, 0), "first -1");
        check.fails(INDEX, () -> house.pieces(0, -1), "second -1");
        check.due(0, () -> new Overlayer().pieces(0, 1), "no areas, no pieces");
    }

    private static void manyPieces() {
        check.promise(29);
        Overlayer house = new Overlayer();
        house.begin(0);
        for (int line = 0; line < 16; line++) {
            house.paint(0, line % 2, line, 0, 1, 16);
            house.paint(1, line % 2, 0, line, 16, 1);
        }
        check.due(256, () -> house.pieces(0, 1), "each square is a piece");
        check.due(1, () -> house.pieceSize(0, 1, 255), "the last piece");
        check.due(1, () -> house.parent(0, 1, 255, false), "its area in the first layer");
        check.due(16, () -> house.pieces(0, 2), "each line is a piece");
        check.due(true, house::isSound, "sound with 256 pieces");
    }

    private static void pieceSize() {
        check.promise(30);
        Overlayer house = twoLayers();
        check.due(8, () -> house.pieceSize(0, 1, 0), "area 1 less the box");
        check.due(8, () -> house.pieceSize(0, 1, 1), "area 2 less the box");
        check.due(1, () -> house.pieceSize(0, 1, 2), "the box over area 1");
        check.due(1, () -> house.pieceSize(0, 1, 3), "the box over area 2");
        check.due(2, () -> house.pieceSize(0, 1, 4), "the piece apart");
        check.fails(NO_ELEMENT, () -> house.pieceSize(0, 1, 5), "piece 5");
        check.fails(NO_ELEMENT, () -> house.pieceSize(0, 1, -1), "piece -1");
        check.fails(NO_ELEMENT, () -> house.pieceSize(0, 1, Integer.MAX_VALUE), "highest piece");
        check.fails(INDEX, () -> house.pieceSize(0, 0, 5), "layers ahead of piece");
        check.fails(INDEX, () -> house.pieceSize(3, 0, 0), "first 3");
        check.fails(INDEX, () -> house.pieceSize(0, -1, 0), "second -1");
        Overlayer corner = new Overlayer();
        corner.begin(0);
        corner.paint(0, 1, 0, 0, 16, 16);
        corner.paint(1, 1, 0, 0, 1, 1);
        corner.paint(1, 1, 1, 1, 1, 1);
        check.due(1, () -> corner.pieceSize(0, 1, 0), "squares at a corner do not hang together");
        check.due(254, () -> corner.pieceSize(0, 1, 1), "a piece that winds about");
        check.due(1, () -> corner.pieceSize(0, 1, 2), "numbered by the lowest square");
    }

    private static void parent() {
        check.promise(31);
        Overlayer house = twoLayers();
        check.due(1, () -> house.parent(0, 1, 0, false), "the first layer");
        check.due(-1, () -> house.parent(0, 1, 0, true), "none in the second layer");
        check.due(2, () -> house.parent(0, 1, 3, false), "the first layer, in the box");
        check.due(7, () -> house.parent(0, 1, 3, true), "the second layer, in the box");
        check.due(-1, () -> house.parent(0, 1, 4, false), "none in the first layer");
        check.due(7, () -> house.parent(1, 0, 4, false), "the layers the other way round");
        check.fails(NO_ELEMENT, () -> house.parent(0, 1, 5, false), "piece 5");
        check.fails(NO_ELEMENT, () -> house.parent(0, 1, -1, true), "piece -1");
        check.fails(INDEX, () -> house.parent(1, 1, 5, false), "layers ahead of piece");
        check.fails(INDEX, () -> house.parent(-1, 1, 0, false), "first -1");
        check.fails(INDEX, () -> house.parent(1, 3, 0, true), "second 3");
    }

    private static void match() {
        check.promise(32);
        Overlayer house = new Overlayer();
        house.begin(0);
        house.paint(0, 1, 0, 0, 8, 1);
        check.fails(NO_ELEMENT, () -> house.match(0, 1, 1), "nothing to match");
        house.paint(1, 9, 0, 0, 3, 1);
        house.paint(1, 4, 5, 0, 9, 1);
        check.due(4, () -> house.match(0, 1, 1), "of several the lowest");
        house.paint(1, 9, 3, 0, 1, 1);
        check.due(9, () -> house.match(0, 1, 1), "the greatest common size");
        check.due(1, () -> house.match(1, 4, 0), "the other way round");
        house.paint(1, 0, 0, 0, 1, 1);
        house.paint(1, -1, 1, 0, 7, 1);
        check.due(0, () -> house.match(0, 1, 1), "a common size of 1, the area 0");
        house.paint(2, 9, 15, 15, 1, 1);
        house.paint(0, 9, 15, 15, 1, 1);
        check.due(9, () -> house.match(0, 9, 2), "the last square");
        house.paint(2, -1, 15, 15, 1, 1);
        check.fails(NO_ELEMENT, () -> house.match(0, 2, 1), "an area without squares");
        check.fails(NO_ELEMENT, () -> house.match(0, 1, 2), "a layer without areas");
        check.fails(ARGUMENT, () -> house.match(0, 10, 1), "area 10");
        check.fails(ARGUMENT, () -> house.match(0, -1, 1), "area -1");
        check.fails(INDEX, () -> house.match(0, 10, 0), "layers ahead of area");
        check.fails(INDEX, () -> house.match(3, 10, 0), "first 3 ahead of area");
        check.fails(INDEX, () -> house.match(0, 10, 3), "second 3 ahead of area");
        check.fails(INDEX, () -> house.match(-1, 10, 0), "first -1 ahead of area");
        check.fails(INDEX, () -> house.match(0, 10, -1), "second -1 ahead of area");
    }

    private static void matchKind() {
        check.promise(33);
        Overlayer house = new Overlayer();
        house.begin(0);
        check.due('n', () -> house.matchKind(0, 1, 1), "nothing at all");
        house.paint(0, 1, 0, 0, 8, 1);
        check.due('n', () -> house.matchKind(0, 1, 1), "nothing there");
        house.paint(1, 2, 4, 0, 4, 1);
        check.due('d', () -> house.matchKind(0, 1, 1), "twice 4 is not greater than 8");
        check.due('d', () -> house.matchKind(1, 2, 0), "nor the other way round");
        house.paint(1, 2, 3, 0, 1, 1);
        check.due('s', () -> house.matchKind(0, 1, 1), "twice 5 is greater than both");
        house.paint(1, 2, 0, 1, 5, 1);
        check.due('d', () -> house.matchKind(0, 1, 1), "the other one is too great");
        check.fails(ARGUMENT, () -> house.matchKind(0, 10, 1), "area 10");
        check.fails(ARGUMENT, () -> house.matchKind(0, -1, 1), "area -1");
        check.fails(INDEX, () -> house.matchKind(0, 10, 0), "layers ahead of area");
        check.fails(INDEX, () -> house.matchKind(3, 10, 0), "first 3 ahead of area");
        check.fails(INDEX, () -> house.matchKind(0, 10, 3), "second 3 ahead of area");
        check.fails(INDEX, () -> house.matchKind(-1, 10, 0), "first -1 ahead of area");
        check.fails(INDEX, () -> house.matchKind(0, 10, -1), "second -1 ahead of area");
    }
}
