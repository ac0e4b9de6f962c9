/** Promises 34 to 37: coarser maps and names. */
public final class MapsTest {
    private static final Class<IndexOutOfBoundsException> INDEX = IndexOutOfBoundsException.class;
    private static final Class<IllegalArgumentException> ARGUMENT = IllegalArgumentException.class;
    private static final Class<java.util.NoSuchElementException> NO_ELEMENT =
            java.util.NoSuchElementException.class;

    private static final Checks check = new Checks("MapsTest");

    public static void main(String[] args) {
        coarse();
        coarseTies();
        coarseChains();
        coarseWrong();
        coarseAreas();
        name();
        placeOf();
        placeBad();
        placesDoNotMeet();
        placesAtTheRim();
        placesOfFirstAndLast();
        placeWrong();
        check.end();
    }

    private static Overlayer inSession() {
        Overlayer house = new Overlayer();
        house.begin(0);
        return house;
    }

    private static void coarse() {
        check.promise(34);
        Overlayer house = inSession();
        house.paint(0, 1, 0, 0, 10, 10);
        house.paint(0, 2, 0, 0, 2, 1);
        house.paint(0, 3, 0, 1, 3, 1);
        house.paint(0, 4, 14, 14, 1, 1);
        check.due(2, () -> house.coarse(0, 2, 2), "as small as the least size is not smaller");
        check.due(3, () -> house.coarse(0, 3, 2), "joined by the longest border, of two the 3");
        check.due(1, () -> house.coarse(0, 6, 2), "the sum is joined on");
        check.due(1, () -> house.coarse(0, 6, 3), "it goes by the number of the latter");
        check.due(3, () -> house.coarse(0, 5, 3), "the sum is great enough");
        check.due(4, () -> house.coarse(0, 256, 4), "no border, not joined");
        check.due(1, () -> house.coarse(0, 256, 1), "nothing is left to be joined with");
        check.due(2, () -> house.size(0, 2), "the layer stays");
    }

    private static void coarseTies() {
        check.promise(34);
        Overlayer house = inSession();
        house.paint(0, 5, 0, 0, 2, 1);
        house.paint(0, 4, 2, 0, 2, 1);
        house.paint(0, 6, 4, 0, 2, 1);
        check.due(5, () -> house.coarse(0, 3, 4), "4 goes first, and to the lower one");
        check.due(5, () -> house.coarse(0, 3, 5), "5 is great enough then");
        check.due(5, () -> house.coarse(0, 3, 6), "6 follows to the sum");
        house.paint(1, 0, 0, 0, 3, 1);
        house.paint(1, 1, 3, 0, 2, 1);
        house.paint(1, 2, 5, 0, 9, 1);
        check.due(0, () -> house.coarse(1, 5, 1), "the least size goes first");
        check.due(0, () -> house.coarse(1, 5, 0), "the sum has five squares");
        check.due(2, () -> house.coarse(1, 6, 0), "the sum goes on to 2");
        house.paint(2, 8, 0, 0, 1, 3);
        house.paint(2, 7, 1, 0, 1, 2);
        house.paint(2, 9, 1, 2, 5, 1);
        check.due(8, () -> house.coarse(2, 3, 7), "the longest border ahead of the number");
    }

    private static void coarseChains() {
        check.promise(34);
        Overlayer house = inSession();
        house.paint(0, 0, 2, 0, 2, 1);
        house.paint(0, 8, 4, 0, 9, 1);
        house.paint(0, 9, 0, 0, 2, 1);
        house.paint(0, 9, 0, 1, 1, 1);
        check.due(8, () -> house.coarse(0, 4, 0), "0 is joined to 8, as 9 is not the lowest");
        check.due(8, () -> house.coarse(0, 4, 9), "9 follows to the sum, not to 0");
        check.due(1, () -> house.coarseAreas(0, 4), "one is left");
        house.paint(0, -1, 2, 0, 1, 1);
        house.paint(0, -1, 3, 0, 1, 1);
        check.due(9, () -> house.coarse(0, 4, 9), "no border is left");
        house.paint(1, 0, 0, 0, 1, 3);
        house.paint(1, 9, 1, 0, 1, 2);
        check.due(0, () -> house.coarse(1, 3, 9), "the area 9 is joined to the area 0");
        house.paint(1, 9, 1, 0, 4, 4);
        check.due(9, () -> house.coarse(1, 4, 0), "the area 0 is joined to the area 9");
        house.paint(1, -1, 1, 0, 1, 4);
        check.due(0, () -> house.coarse(1, 4, 0), "borders are counted anew");
    }

    private static void coarseWrong() {
        check.promise(34);
        Overlayer house = inSession();
        house.paint(0, 0, 0, 0, 1, 1);
        check.due(0, () -> house.coarse(0, 1, 0), "least size 1");
        check.due(0, () -> house.coarse(0, 256, 0), "least size 256");
        check.fails(NO_ELEMENT, () -> house.coarse(0, 1, 1), "no squares");
        check.fails(ARGUMENT, () -> house.coarse(0, 0, 0), "least size 0");
        check.fails(ARGUMENT, () -> house.coarse(0, 257, 0), "least size 257");
        check.fails(ARGUMENT, () -> house.coarse(0, 1, 10), "area 10");
        check.fails(ARGUMENT, () -> house.coarse(0, 1, -1), "area -1");
        check.fails(ARGUMENT, () -> house.coarse(0, 0, 1), "least size ahead of no squares");
        check.fails(INDEX, () -> house.coarse(3, 0, 10), "layer 3 ahead of the rest");
        check.fails(INDEX, () -> house.coarse(-1, 1, 0), "layer -1");
    }

    private static void coarseAreas() {
        check.promise(35);
        Overlayer house = inSession();
        check.due(0, () -> house.coarseAreas(0, 256), "no areas");
        house.paint(0, 0, 0, 0, 16, 16);
        for (int area = 1; area < 10; area++) {
            house.paint(0, area, area, 0, 1, area);
        }
        check.due(10, () -> house.coarseAreas(0, 1), "all areas");
        check.due(9, () -> house.coarseAreas(0, 2), "one is joined");
        check.due(1, () -> house.coarseAreas(0, 256), "all are joined");
        house.paint(0, -1, 0, 0, 16, 16);
        house.paint(0, 3, 0, 0, 1, 1);
        house.paint(0, 4, 1, 1, 1, 1);
        check.due(2, () -> house.coarseAreas(0, 256), "none has a border");
        check.fails(INDEX, () -> house.coarseAreas(3, 0), "layer 3 ahead of least size");
        check.fails(INDEX, () -> house.coarseAreas(-1, 1), "layer -1");
        check.fails(ARGUMENT, () -> house.coarseAreas(0, 0), "least size 0");
        check.fails(ARGUMENT, () -> house.coarseAreas(0, 257), "least size 257");
    }

    private static void name() {
        check.promise(36);
        Overlayer house = new Overlayer();
        check.due(0, () -> house.name(0, 0, 6), "no name at first");
        check.due(6, () -> house.name(0, 0, 1), "the length before");
        check.due(1, () -> house.name(0, 0, 0), "no name again");
        check.due(0, () -> house.name(0, 0, 3), "the name was taken");
        check.due(0, () -> house.name(0, 1, 0), "each area by itself");
        check.due(0, () -> house.name(1, 0, 0), "each layer by itself");
        check.fails(INDEX, () -> house.name(3, 0, 1), "layer 3");
        check.fails(INDEX, () -> house.name(-1, 10, 7), "layer ahead of the rest");
        check.fails(ARGUMENT, () -> house.name(0, 10, 1), "area 10");
        check.fails(ARGUMENT, () -> house.name(0, -1, 1), "area -1");
        check.fails(ARGUMENT, () -> house.name(0, 0, 7), "length 7");
        check.fails(ARGUMENT, () -> house.name(0, 0, -1), "length -1");
        check.due(3, () -> house.name(0, 0, 2), "calls that throw change nothing");
        house.begin(0);
        check.due(2, () -> house.name(0, 0, 5), "in a session");
        house.drop();
        check.due(5, () -> house.name(0, 0, 5), "names stay behind a drop");
    }

    private static void placeOf() {
        check.promise(37);
        Overlayer house = inSession();
        house.paint(0, 1, 4, 4, 5, 3);
        house.name(0, 1, 1);
        check.due(16 * 5 + 6, () -> house.placeOf(0, 1), "length 1 in the middle");
        house.name(0, 1, 2);
        check.due(16 * 5 + 5, () -> house.placeOf(0, 1), "length 2: half of it is 1");
        house.name(0, 1, 3);
        check.due(16 * 5 + 5, () -> house.placeOf(0, 1), "length 3: half of it is 1");
        house.name(0, 1, 5);
        check.due(16 * 5 + 4, () -> house.placeOf(0, 1), "all of the row");
        house.name(0, 1, 6);
        check.fails(NO_ELEMENT, () -> house.placeOf(0, 1), "longer than the rows");
        house.paint(0, 2, 12, 0, 4, 1);
        house.paint(0, 2, 0, 1, 4, 1);
        house.name(0, 2, 5);
        check.fails(NO_ELEMENT, () -> house.placeOf(0, 2), "rows do not hang together");
        house.name(0, 2, 4);
        check.due(16, () -> house.placeOf(0, 2), "the middle is 7 and 0: 5 and 1 against 7");
        house.paint(0, 3, 10, 15, 6, 1);
        house.name(0, 3, 6);
        check.due(250, () -> house.placeOf(0, 3), "the last row up to its end");
    }

    private static void placeBad() {
        check.promise(37);
        Overlayer house = inSession();
        house.paint(0, 1, 4, 4, 5, 5);
        house.paint(0, 2, 6, 6, 1, 1);
        house.name(0, 1, 1);
        check.due(16 * 5 + 6, () -> house.placeOf(0, 1), "of four as bad the lowest square");
        house.paint(0, 2, 6, 5, 1, 1);
        check.due(16 * 6 + 5, () -> house.placeOf(0, 1), "of three as bad the lowest square");
        house.paint(0, 3, 0, 0, 2, 1);
        house.name(0, 3, 1);
        check.due(0, () -> house.placeOf(0, 3), "the middle is rounded down");
        house.paint(0, 4, 0, 14, 1, 2);
        house.name(0, 4, 1);
        check.due(16 * 14, () -> house.placeOf(0, 4), "along y, too");
    }

    private static void placesDoNotMeet() {
        check.promise(37);
        Overlayer house = inSession();
        house.paint(0, 5, 0, 0, 3, 1);
        house.paint(0, 6, 0, 1, 3, 1);
        house.name(0, 5, 1);
        house.name(0, 6, 1);
        check.due(1, () -> house.placeOf(0, 5), "of the same size the lowest number is first");
        check.due(16, () -> house.placeOf(0, 6), "not below the other name");
        house.name(0, 5, 3);
        check.fails(NO_ELEMENT, () -> house.placeOf(0, 6), "no place is left");
        house.name(0, 5, 0);
        check.due(17, () -> house.placeOf(0, 6), "without the other name");
        house.name(0, 5, 6);
        check.due(17, () -> house.placeOf(0, 6), "a name that is not placed hinders none");
        check.fails(NO_ELEMENT, () -> house.placeOf(0, 5), "nor is it placed itself");
        house.name(0, 5, 2);
        house.paint(0, 6, 3, 1, 1, 1);
        check.due(17, () -> house.placeOf(0, 6), "the greater one is first");
        check.fails(NO_ELEMENT, () -> house.placeOf(0, 5), "the smaller one has no place");
        house.name(0, 5, 1);
        check.due(0, () -> house.placeOf(0, 5), "at a corner of the other name");
        house.paint(1, 6, 0, 1, 4, 1);
        house.name(1, 6, 3);
        check.due(0, () -> house.placeOf(0, 5), "names of other layers hinder none");
        check.due(16, () -> house.placeOf(1, 6), "nor do others hinder theirs");
    }

    private static void placesAtTheRim() {
        check.promise(37);
        Overlayer house = inSession();
        house.paint(2, 1, 14, 0, 2, 1);
        house.paint(2, 2, 0, 1, 1, 1);
        house.paint(2, 3, 13, 0, 1, 1);
        house.paint(2, 4, 14, 1, 1, 1);
        house.name(2, 1, 2);
        house.name(2, 2, 1);
        house.name(2, 3, 1);
        house.name(2, 4, 1);
        check.due(14, () -> house.placeOf(2, 1), "the end of the first row");
        check.due(16, () -> house.placeOf(2, 2), "rows do not hang together at their ends");
        check.fails(NO_ELEMENT, () -> house.placeOf(2, 3), "not left of the other name");
        check.fails(NO_ELEMENT, () -> house.placeOf(2, 4), "not below it");
        house.paint(2, 1, 0, 14, 1, 2);
        house.name(2, 1, 1);
        check.due(14, () -> house.placeOf(2, 1), "of two ends of the map the lowest square");
    }

    private static void placesOfFirstAndLast() {
        check.promise(37);
        Overlayer house = inSession();
        house.paint(0, 0, 0, 0, 3, 3);
        house.paint(0, 9, 15, 15, 1, 1);
        house.paint(0, 5, 15, 14, 1, 1);
        house.paint(0, 6, 14, 15, 1, 1);
        for (int area : new int[] {6, 9}) {
            house.name(0, area, 1);
        }
        check.due(254, () -> house.placeOf(0, 6), "without regard to areas that have no name");
        check.fails(NO_ELEMENT, () -> house.placeOf(0, 9), "right of the other name");
        house.name(0, 6, 0);
        check.due(255, () -> house.placeOf(0, 9), "the last square");
        house.paint(0, 5, 14, 13, 1, 1);
        house.paint(0, 9, 15, 12, 1, 1);
        house.paint(0, 9, 13, 15, 1, 1);
        house.name(0, 5, 1);
        check.due(253, () -> house.placeOf(0, 9), "the middle is 14 and 14");
        check.due(16 * 13 + 14, () -> house.placeOf(0, 5), "the middle is 14 and 13");
        house.name(0, 0, 1);
        check.due(17, () -> house.placeOf(0, 0), "the area 0");
        house.paint(1, 1, 15, 15, 1, 1);
        house.paint(1, 2, 15, 14, 1, 1);
        house.name(1, 1, 1);
        house.name(1, 2, 1);
        check.due(255, () -> house.placeOf(1, 1), "a name on the last square");
        check.fails(NO_ELEMENT, () -> house.placeOf(1, 2), "above it is no place");
    }

    private static void placeWrong() {
        check.promise(37);
        Overlayer house = inSession();
        house.name(0, 1, 1);
        check.fails(NO_ELEMENT, () -> house.placeOf(0, 1), "a name, but no squares");
        house.paint(0, 2, 0, 0, 9, 9);
        check.fails(NO_ELEMENT, () -> house.placeOf(0, 2), "squares, but no name");
        check.fails(INDEX, () -> house.placeOf(3, 0), "layer 3");
        check.fails(INDEX, () -> house.placeOf(-1, 10), "layer ahead of area");
        check.fails(ARGUMENT, () -> house.placeOf(0, 10), "area 10");
        check.fails(ARGUMENT, () -> house.placeOf(0, -1), "area -1");
    }
}
