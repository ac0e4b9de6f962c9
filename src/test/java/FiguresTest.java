/** Promises 38 to 41: figures. */
public final class FiguresTest {
    private static final Class<IndexOutOfBoundsException> INDEX = IndexOutOfBoundsException.class;
    private static final Class<ArithmeticException> ARITHMETIC = ArithmeticException.class;

    private static final Checks check = new Checks("FiguresTest");

    public static void main(String[] args) {
        values();
        covered();
        meanPiece();
        isSound();
        isSoundTells();
        check.end();
    }

    private static void values() {
        check.promise(38);
        Overlayer house = new Overlayer();
        check.due(0L, () -> house.values(0), "none at first");
        house.begin(0);
        for (int area = 0; area < 10; area++) {
            house.paint(1, area, area, 0, 1, 1);
            house.setValue(1, area, 9999 - area);
        }
        check.due(99945L, () -> house.values(1), "the sum of all");
        check.due(0L, () -> house.values(0), "another layer");
        house.drop();
        check.due(0L, () -> house.values(1), "none behind a drop");
        check.fails(INDEX, () -> house.values(3), "layer 3");
        check.fails(INDEX, () -> house.values(-1), "layer -1");
    }

    private static void covered() {
        check.promise(39);
        Overlayer house = new Overlayer();
        check.due(0f, () -> house.covered(0), "nothing at first");
        house.begin(0);
        house.paint(0, 1, 0, 0, 3, 1);
        house.paint(0, 9, 5, 5, 2, 2);
        check.due(7f / 256f, () -> house.covered(0), "7 of 256");
        check.due(0f, () -> house.covered(2), "another layer");
        house.paint(0, 4, 0, 0, 16, 16);
        check.due(1f, () -> house.covered(0), "all");
        house.paint(0, -1, 0, 0, 16, 1);
        check.due(240f / 256f, () -> house.covered(0), "less a row");
        house.paint(2, 0, 0, 0, 1, 1);
        house.paint(2, 9, 15, 15, 1, 1);
        check.due(2f / 256f, () -> house.covered(2), "the first and the last area");
        check.fails(INDEX, () -> house.covered(3), "layer 3");
        check.fails(INDEX, () -> house.covered(-1), "layer -1");
    }

    private static void meanPiece() {
        check.promise(40);
        Overlayer house = new Overlayer();
        check.fails(ARITHMETIC, () -> house.meanPiece(0, 1), "no pieces");
        check.fails(INDEX, () -> house.meanPiece(1, 1), "both the same ahead of no pieces");
        house.begin(0);
        house.paint(0, 1, 0, 0, 5, 1);
        house.paint(1, 2, 4, 0, 3, 1);
        check.due(7.0 / 3.0, () -> house.meanPiece(0, 1), "7 squares in 3 pieces");
        check.due(7.0 / 3.0, () -> house.meanPiece(1, 0), "the other way round");
        check.due(5.0, () -> house.meanPiece(0, 2), "one piece");
        check.fails(INDEX, () -> house.meanPiece(3, 0), "first 3");
        check.fails(INDEX, () -> house.meanPiece(0, 3), "second 3");
        check.fails(INDEX, () -> house.meanPiece(-1, 0), "first -1");
        check.fails(INDEX, () -> house.meanPiece(0, -1), "second -1");
    }

    private static void isSound() {
        check.promise(41);
        Overlayer house = new Overlayer();
        check.due(true, house::isSound, "a new house");
        house.begin(0);
        house.paint(0, 1, 0, 0, 8, 8);
        house.paint(1, 2, 4, 4, 8, 8);
        house.setValue(0, 1, 5);
        check.due(true, house::isSound, "within a session that has changed squares");
        house.keep();
        check.due(true, house::isSound, "behind a keep");
        house.begin(0);
        house.merge(0, 1, 3);
        house.setDivides(0, false);
        house.paint(0, 4, 0, 0, 16, 16);
        check.due(true, house::isSound, "within another session");
        house.drop();
        check.due(true, house::isSound, "behind a drop");
    }

    /**
     * No run of calls makes a house that is not sound, so the state itself is spoilt here, to
     * see that isSound looks at all that the promise names. Where the state is held otherwise,
     * there is no such row, and nothing is asked.
     */
    private static void isSoundTells() {
        check.promise(41);
        for (int layer = 0; layer < 3; layer++) {
            tells("sizes", layer, 0, 9, false);
            tells("sizes", layer, 9, 1, false);
            tells("worths", layer, 0, 1, false);
            tells("worths", layer, 9, 1, false);
            tells("stored", layer, 256 + 255, 1, false);
        }
        tells("sizes", 1, 3, 9, false);
        tells("worths", 2, 7, 1, false);
        tells("worths", 2, 1, -1, false);
        tells("worths", 2, 1, 1, true);
        tells("squares", 0, 0, -1, false);
        tells("stored", 0, 256, 2, false);
    }

    private static void tells(String row, int layer, int at, int number, boolean want) {
        Overlayer house = new Overlayer();
        house.begin(0);
        for (int each = 0; each < 3; each++) {
            house.paint(each, 1, 0, 0, 4, 4);
        }
        house.keep();
        int[] spoilt = rowOf(house, row, layer);
        if (at >= spoilt.length) {
            System.out.println("the state has no row " + row + ": not asked");
            return;
        }
        spoilt[at] = number;
        check.due(want, house::isSound, row + " of layer " + layer + " at " + at + " is " + number);
    }

    private static int[] rowOf(Overlayer house, String row, int layer) {
        try {
            java.lang.reflect.Field layers = Overlayer.class.getDeclaredField("layers");
            layers.setAccessible(true);
            Object held = layers.get(house) instanceof Object[] all ? all[layer] : house;
            java.lang.reflect.Field field = held.getClass().getDeclaredField(row);
            field.setAccessible(true);
            return field.get(held) instanceof int[] numbers ? numbers : new int[0];
        } catch (ReflectiveOperationException otherState) {
            return new int[0];
        }
    }
}
