/** Promises 14 to 23: squares, areas and history. */
public final class SquaresTest {
    private static final Class<IndexOutOfBoundsException> INDEX = IndexOutOfBoundsException.class;
    private static final Class<IllegalArgumentException> ARGUMENT = IllegalArgumentException.class;
    private static final Class<java.util.NoSuchElementException> NO_ELEMENT =
            java.util.NoSuchElementException.class;

    private static final Checks check = new Checks("SquaresTest");

    public static void main(String[] args) {
        areaAt();
        areaThen();
        authorOf();
        size();
        value();
        rim();
        border();
        distance();
        nearest();
        belt();
        check.end();
    }

    private static Overlayer inSession() {
        Overlayer house = new Overlayer();
        house.begin(0);
        return house;
    }

    private static void areaAt() {
        check.promise(14);
        Overlayer house = inSession();
        house.paint(1, 9, 15, 15, 1, 1);
        house.paint(1, 0, 3, 2, 1, 1);
        check.due(9, () -> house.areaAt(1, 255), "the last square");
        check.due(0, () -> house.areaAt(1, 35), "16 times y plus x");
        check.due(-1, () -> house.areaAt(1, 50), "not 16 times x plus y");
        check.due(-1, () -> house.areaAt(0, 255), "another layer");
        check.fails(INDEX, () -> house.areaAt(3, 0), "layer 3");
        check.fails(INDEX, () -> house.areaAt(-1, 0), "layer -1");
        check.fails(INDEX, () -> house.areaAt(0, 256), "square 256");
        check.fails(INDEX, () -> house.areaAt(0, -1), "square -1");
    }

    private static void areaThen() {
        check.promise(15);
        Overlayer house = new Overlayer();
        house.begin(0);
        house.paint(0, 3, 0, 0, 1, 1);
        check.fails(ARGUMENT, () -> house.areaThen(0, 0, 1), "a session that is not kept");
        check.due(-1, () -> house.areaThen(0, 0, 0), "by time 0, to none");
        house.keep();
        house.begin(0);
        house.paint(0, 4, 0, 0, 1, 1);
        check.due(3, () -> house.areaThen(0, 0, 1), "whatever is edited now");
        house.keep();
        house.begin(0);
        house.paint(0, -1, 0, 0, 1, 1);
        house.keep();
        check.due(-1, () -> house.areaThen(0, 0, 0), "by time 0");
        check.due(3, () -> house.areaThen(0, 0, 1), "by time 1");
        check.due(4, () -> house.areaThen(0, 0, 2), "by time 2");
        check.due(-1, () -> house.areaThen(0, 0, 3), "by time 3");
        check.due(-1, () -> house.areaThen(1, 0, 1), "another layer");
        check.due(-1, () -> house.areaThen(0, 1, 1), "another square");
        check.fails(ARGUMENT, () -> house.areaThen(0, 0, 4), "a time that has not come");
        check.fails(ARGUMENT, () -> house.areaThen(0, 0, -1), "time -1");
        check.fails(INDEX, () -> house.areaThen(3, 0, 0), "layer 3");
        check.fails(INDEX, () -> house.areaThen(-1, 0, 0), "layer -1");
        check.fails(INDEX, () -> house.areaThen(0, 256, 0), "square 256");
        check.fails(INDEX, () -> house.areaThen(0, -1, 4), "square ahead of time");
    }

    private static void authorOf() {
        check.promise(16);
        Overlayer house = new Overlayer();
        house.begin(1);
        house.paint(0, 3, 0, 0, 1, 1);
        house.keep();
        house.begin(2);
        house.paint(0, 4, 0, 0, 1, 1);
        house.paint(0, 3, 0, 0, 1, 1);
        house.paint(0, 3, 1, 0, 1, 1);
        house.keep();
        house.begin(3);
        house.paint(0, 5, 0, 0, 1, 1);
        house.drop();
        house.begin(4);
        house.paint(0, -1, 0, 0, 1, 1);
        house.keep();
        check.fails(NO_ELEMENT, () -> house.authorOf(0, 0, 0), "by time 0 there is none");
        check.due(1, () -> house.authorOf(0, 0, 1), "by time 1");
        check.due(1, () -> house.authorOf(0, 0, 2), "changed back within the session");
        check.due(4, () -> house.authorOf(0, 0, 3), "to none instead");
        check.due(2, () -> house.authorOf(0, 1, 3), "another square");
        check.fails(NO_ELEMENT, () -> house.authorOf(0, 1, 1), "not yet");
        check.fails(NO_ELEMENT, () -> house.authorOf(0, 2, 3), "never");
        check.fails(NO_ELEMENT, () -> house.authorOf(1, 0, 3), "another layer");
        house.begin(5);
        house.paint(0, 6, 0, 0, 1, 1);
        check.due(4, () -> house.authorOf(0, 0, 3), "a session that is not kept");
        check.fails(ARGUMENT, () -> house.authorOf(0, 0, 4), "a time that has not come");
        check.fails(ARGUMENT, () -> house.authorOf(0, 0, -1), "time -1");
        check.fails(INDEX, () -> house.authorOf(3, 0, 4), "layer ahead of time");
        check.fails(INDEX, () -> house.authorOf(-1, 0, 0), "layer -1");
        check.fails(INDEX, () -> house.authorOf(0, 256, 4), "square ahead of time");
        check.fails(INDEX, () -> house.authorOf(0, -1, 0), "square -1");
        check.fails(ARGUMENT, () -> house.authorOf(0, 9, 4), "time ahead of no author");
    }

    private static void size() {
        check.promise(17);
        Overlayer house = inSession();
        house.paint(2, 0, 0, 0, 16, 16);
        house.paint(2, 9, 3, 3, 3, 3);
        check.due(247, () -> house.size(2, 0), "what is left");
        check.due(9, () -> house.size(2, 9), "a box");
        check.due(0, () -> house.size(2, 5), "an area without squares");
        check.due(0, () -> house.size(1, 0), "another layer");
        check.fails(INDEX, () -> house.size(3, 0), "layer 3");
        check.fails(INDEX, () -> house.size(-1, 10), "layer ahead of area");
        check.fails(ARGUMENT, () -> house.size(0, 10), "area 10");
        check.fails(ARGUMENT, () -> house.size(0, -1), "area -1");
    }

    private static void value() {
        check.promise(18);
        Overlayer house = inSession();
        house.paint(1, 2, 0, 0, 1, 1);
        house.setValue(1, 2, 77);
        check.due(77, () -> house.value(1, 2), "as it was set");
        check.due(0, () -> house.value(1, 3), "0 at first");
        check.due(0, () -> house.value(0, 2), "another layer");
        check.fails(INDEX, () -> house.value(3, 0), "layer 3");
        check.fails(INDEX, () -> house.value(-1, 10), "layer ahead of area");
        check.fails(ARGUMENT, () -> house.value(0, 10), "area 10");
        check.fails(ARGUMENT, () -> house.value(0, -1), "area -1");
    }

    private static void rim() {
        check.promise(19);
        Overlayer house = inSession();
        check.due(0, () -> house.rim(0, 0), "no squares");
        house.paint(0, 0, 0, 0, 16, 16);
        check.due(64, () -> house.rim(0, 0), "the rim of the map counts");
        house.paint(0, 1, 5, 5, 1, 1);
        check.due(4, () -> house.rim(0, 1), "one square");
        check.due(68, () -> house.rim(0, 0), "the hole counts");
        house.paint(0, 1, 6, 6, 1, 1);
        check.due(8, () -> house.rim(0, 1), "two squares at a corner");
        house.paint(0, 1, 6, 5, 1, 1);
        check.due(8, () -> house.rim(0, 1), "three squares in a corner");
        house.paint(0, 2, 15, 0, 1, 1);
        house.paint(0, 2, 0, 1, 1, 1);
        check.due(8, () -> house.rim(0, 2), "rows do not hang together at their ends");
        check.fails(INDEX, () -> house.rim(3, 0), "layer 3");
        check.fails(INDEX, () -> house.rim(-1, 10), "layer ahead of area");
        check.fails(ARGUMENT, () -> house.rim(0, 10), "area 10");
        check.fails(ARGUMENT, () -> house.rim(0, -1), "area -1");
    }

    private static void border() {
        check.promise(20);
        Overlayer house = inSession();
        house.paint(0, 1, 0, 0, 4, 4);
        house.paint(0, 2, 4, 1, 2, 6);
        house.paint(0, 3, 0, 4, 4, 1);
        check.due(3, () -> house.border(0, 1, 2), "side by side along x");
        check.due(3, () -> house.border(0, 2, 1), "the other way round");
        check.due(4, () -> house.border(0, 1, 3), "side by side along y");
        check.due(1, () -> house.border(0, 2, 3), "one pair");
        check.due(0, () -> house.border(0, 1, 4), "an area without squares");
        house.paint(0, 5, 15, 8, 1, 1);
        house.paint(0, 6, 0, 9, 1, 1);
        check.due(0, () -> house.border(0, 5, 6), "rows do not hang together at their ends");
        house.paint(1, 8, 0, 0, 16, 16);
        house.paint(1, 9, 0, 0, 1, 1);
        check.due(2, () -> house.border(1, 9, 8), "at the square 0");
        check.due(2, () -> house.border(1, 8, 9), "at the square 0, the other way round");
        house.paint(1, 7, 15, 15, 1, 1);
        check.due(2, () -> house.border(1, 7, 8), "at the square 255");
        check.due(2, () -> house.border(1, 8, 7), "at the square 255, the other way round");
        check.fails(INDEX, () -> house.border(3, 0, 1), "layer 3");
        check.fails(INDEX, () -> house.border(-1, 0, 0), "layer ahead of areas");
        check.fails(ARGUMENT, () -> house.border(0, 10, 0), "area 10");
        check.fails(ARGUMENT, () -> house.border(0, 0, 10), "other 10");
        check.fails(ARGUMENT, () -> house.border(0, -1, 0), "area -1");
        check.fails(ARGUMENT, () -> house.border(0, 0, -1), "other -1");
        check.fails(ARGUMENT, () -> house.border(0, 4, 4), "both the same");
    }

    private static void distance() {
        check.promise(21);
        Overlayer house = inSession();
        house.paint(0, 1, 0, 0, 2, 2);
        house.paint(0, 2, 2, 0, 1, 1);
        house.paint(0, 3, 15, 15, 1, 1);
        house.paint(0, 4, 4, 6, 3, 3);
        check.due(1, () -> house.distance(0, 1, 2), "neighbours");
        check.due(28, () -> house.distance(0, 1, 3), "across the map");
        check.due(28, () -> house.distance(0, 3, 1), "the other way round");
        check.due(3 + 5, () -> house.distance(0, 1, 4), "along x and along y");
        check.due(9 + 7, () -> house.distance(0, 3, 4), "up and left");
        house.paint(0, 5, 15, 0, 1, 1);
        house.paint(0, 6, 0, 15, 1, 1);
        check.due(30, () -> house.distance(0, 5, 6), "from corner to corner");
        check.fails(NO_ELEMENT, () -> house.distance(0, 0, 1), "no squares");
        check.fails(NO_ELEMENT, () -> house.distance(0, 1, 0), "the other has no squares");
        check.fails(NO_ELEMENT, () -> house.distance(0, 7, 8), "both have no squares");
        check.fails(INDEX, () -> house.distance(3, 0, 1), "layer 3");
        check.fails(INDEX, () -> house.distance(-1, 0, 0), "layer ahead of areas");
        check.fails(ARGUMENT, () -> house.distance(0, 10, 0), "area 10");
        check.fails(ARGUMENT, () -> house.distance(0, 0, 10), "other 10");
        check.fails(ARGUMENT, () -> house.distance(0, -1, 0), "area -1");
        check.fails(ARGUMENT, () -> house.distance(0, 0, -1), "other -1");
        check.fails(ARGUMENT, () -> house.distance(0, 7, 7), "both the same, without squares");
    }

    private static void nearest() {
        check.promise(22);
        Overlayer house = inSession();
        check.fails(NO_ELEMENT, () -> house.nearest(0, 5), "no squares at all");
        house.paint(0, 5, 8, 8, 1, 1);
        check.fails(NO_ELEMENT, () -> house.nearest(0, 5), "each other one has no squares");
        check.fails(NO_ELEMENT, () -> house.nearest(0, 4), "it has no squares");
        house.paint(0, 9, 0, 0, 1, 1);
        check.due(9, () -> house.nearest(0, 5), "the only one");
        check.due(5, () -> house.nearest(0, 9), "the other way round");
        house.paint(0, 7, 8, 12, 1, 1);
        check.due(7, () -> house.nearest(0, 5), "a nearer one");
        house.paint(0, 6, 6, 6, 1, 1);
        check.due(6, () -> house.nearest(0, 5), "of several the lowest");
        house.paint(0, 8, 9, 9, 1, 1);
        check.due(8, () -> house.nearest(0, 5), "steps go along x or along y");
        house.paint(0, 3, 8, 7, 1, 1);
        house.paint(0, 8, 8, 9, 1, 1);
        check.due(3, () -> house.nearest(0, 5), "of two neighbours the lowest");
        house.paint(0, 0, 7, 8, 1, 1);
        check.due(0, () -> house.nearest(0, 5), "the area 0");
        house.paint(1, 9, 0, 0, 1, 1);
        house.paint(1, 0, 15, 15, 1, 1);
        check.due(0, () -> house.nearest(1, 9), "the area 0 across the map");
        check.due(9, () -> house.nearest(1, 0), "the area 9 across the map");
        check.fails(INDEX, () -> house.nearest(3, 0), "layer 3");
        check.fails(INDEX, () -> house.nearest(-1, 10), "layer ahead of area");
        check.fails(ARGUMENT, () -> house.nearest(0, 10), "area 10");
        check.fails(ARGUMENT, () -> house.nearest(0, -1), "area -1");
    }

    private static void belt() {
        check.promise(23);
        Overlayer house = inSession();
        check.due(0, () -> house.belt(0, 1, 30), "no squares");
        house.paint(0, 1, 8, 8, 1, 1);
        check.due(4, () -> house.belt(0, 1, 1), "one step");
        check.due(12, () -> house.belt(0, 1, 2), "two steps");
        check.due(24, () -> house.belt(0, 1, 3), "three steps");
        check.due(255, () -> house.belt(0, 1, 16), "to the far corner");
        check.due(254, () -> house.belt(0, 1, 15), "all but the far corner");
        house.paint(0, 2, 8, 7, 1, 1);
        check.due(4, () -> house.belt(0, 1, 1), "squares of other areas count");
        house.paint(0, 3, 0, 0, 1, 1);
        check.due(255, () -> house.belt(0, 3, 30), "30 steps from a corner");
        check.due(254, () -> house.belt(0, 3, 29), "29 steps from a corner");
        check.due(2, () -> house.belt(0, 3, 1), "one step from a corner");
        house.paint(0, 4, 0, 0, 16, 16);
        check.due(0, () -> house.belt(0, 4, 5), "its own squares do not count");
        check.fails(INDEX, () -> house.belt(3, 0, 1), "layer 3");
        check.fails(INDEX, () -> house.belt(-1, 10, 0), "layer ahead of area");
        check.fails(ARGUMENT, () -> house.belt(0, 10, 1), "area 10");
        check.fails(ARGUMENT, () -> house.belt(0, -1, 1), "area -1");
        check.fails(ARGUMENT, () -> house.belt(0, 0, 0), "width 0");
        check.fails(ARGUMENT, () -> house.belt(0, 0, 31), "width 31");
    }
}
