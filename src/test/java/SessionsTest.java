/** Promises 1 to 10: a new object, sessions and edits. */
public final class SessionsTest {
    private static final Class<IndexOutOfBoundsException> INDEX = IndexOutOfBoundsException.class;
    private static final Class<IllegalArgumentException> ARGUMENT = IllegalArgumentException.class;
    private static final Class<IllegalStateException> STATE = IllegalStateException.class;
    private static final Class<UnsupportedOperationException> UNSUPPORTED =
            UnsupportedOperationException.class;
    private static final Class<java.util.NoSuchElementException> NO_ELEMENT =
            java.util.NoSuchElementException.class;

    private static final Checks check = new Checks("SessionsTest");

    public static void main(String[] args) {
        newObject();
        begin();
        beginForty();
        paint();
        paintShares();
        paintWrong();
        split();
        splitWrong();
        merge();
        mergeGrown();
        setValue();
        setDivides();
        sign();
        keep();
        drop();
        dropAll();
        dropLeaves();
        check.end();
    }

    private static Overlayer inSession() {
        Overlayer house = new Overlayer();
        house.begin(0);
        return house;
    }

    private static void newObject() {
        check.promise(1);
        for (int layer = 0; layer < 3; layer++) {
            newLayer(layer);
        }
        Overlayer house = new Overlayer();
        check.fails(STATE, house::drop, "drop of a new house: no session");
        check.fails(NO_ELEMENT, () -> house.broken(0), "a rule of a new house");
        check.fails(NO_ELEMENT, () -> house.conflicts(0), "a version of a new house");
        check.due(true, house::isSound, "a new house is sound");
        check.due(0, () -> house.begin(0), "the time of a new house");
    }

    private static void newLayer(int layer) {
        Overlayer now = new Overlayer();
        Overlayer then = new Overlayer();
        for (int each = 0; each < 256; each++) {
            int square = each;
            check.due(-1, () -> now.areaAt(layer, square), "a square of a new house");
            check.due(-1, () -> then.areaThen(layer, square, 0), "one of a new house by time 0");
        }
        for (int each = 0; each < 10; each++) {
            int area = each;
            check.due(0, () -> now.size(layer, area), "the size of a new area");
            check.due(0, () -> now.value(layer, area), "the value of a new area");
            check.due(0, () -> now.name(layer, area, 0), "the name of a new area");
        }
    }

    private static void begin() {
        check.promise(2);
        for (int author = 0; author <= 5; author++) {
            final int a = author;
            check.due(0, () -> new Overlayer().begin(a), "begin by author " + a);
        }
        Overlayer house = new Overlayer();
        check.fails(ARGUMENT, () -> house.begin(6), "author 6");
        check.fails(ARGUMENT, () -> house.begin(-1), "author -1");
        check.fails(ARGUMENT, () -> house.begin(Integer.MIN_VALUE), "the lowest author");
        check.fails(STATE, house::keep, "a begin that throws begins nothing");
        house.begin(5);
        check.fails(STATE, () -> house.begin(5), "begin in a session");
        check.fails(ARGUMENT, () -> house.begin(6), "author 6 in a session: author first");
        house.keep();
        check.due(1, () -> house.begin(1), "the time after one kept session");
        house.drop();
        check.due(1, () -> house.begin(1), "a dropped session takes no time");
    }

    private static void beginForty() {
        check.promise(2);
        Overlayer house = new Overlayer();
        for (int session = 0; session < 40; session++) {
            final int s = session;
            check.due(s, () -> house.begin(s % 6), "begin of session " + s);
            house.paint(s % 3, s % 10, s % 16, s / 16, 1, 1);
            check.due(s + 1, house::keep, "keep of session " + s);
        }
        check.fails(STATE, () -> house.begin(0), "begin after 40 kept");
        check.fails(ARGUMENT, () -> house.begin(6), "a wrong author after 40 kept");
        check.due(3, () -> house.authorOf(0, 39, 40), "author of the last session");
        check.due(9, () -> house.areaAt(0, 39), "area of the last session");
        check.due(-1, () -> house.areaThen(0, 39, 39), "area ahead of it");
        check.due(true, house::isSound, "sound after 40 kept");
        Overlayer other = new Overlayer();
        for (int session = 0; session < 60; session++) {
            other.begin(0);
            other.drop();
        }
        check.due(0, () -> other.begin(0), "dropped sessions do not count to the 40");
    }

    private static void paint() {
        check.promise(3);
        Overlayer house = inSession();
        check.due(16, () -> house.paint(0, 1, 0, 0, 4, 4), "a fresh box");
        check.due(0, () -> house.paint(0, 1, 0, 0, 4, 4), "the same box again");
        check.due(8, () -> house.paint(0, 1, 2, 2, 4, 3), "a box half over it: 12 less 4");
        check.due(1, () -> house.areaAt(0, 16 * 4 + 5), "the last square of the box");
        check.due(-1, () -> house.areaAt(0, 16 * 4 + 6), "a square right of the box");
        check.due(-1, () -> house.areaAt(0, 16 * 5 + 5), "a square below the box");
        check.due(-1, () -> house.areaAt(1, 0), "another layer");
        check.due(256, () -> house.paint(2, 9, 0, 0, 16, 16), "the whole layer");
        check.due(1, () -> house.paint(2, -1, 15, 15, 1, 1), "none at the last square");
        check.due(0, () -> house.paint(2, -1, 15, 15, 1, 1), "none again");
        check.due(255, () -> house.size(2, 9), "the size behind it");
        check.due(1, () -> house.paint(1, 0, 15, 0, 1, 1), "the box of one square");
        check.due(0, () -> house.areaAt(1, 15), "the box of one square: its area");
    }

    private static void paintShares() {
        check.promise(3);
        Overlayer house = inSession();
        house.paint(0, 1, 0, 0, 4, 1);
        house.paint(0, 2, 4, 0, 3, 1);
        house.paint(0, 3, 7, 0, 2, 1);
        house.setValue(0, 1, 11);
        house.setValue(0, 2, 100);
        house.setValue(0, 3, 9999);
        house.paint(0, 3, 3, 0, 2, 1);
        check.due(11 - 2, () -> house.value(0, 1), "11 times 1 by 4, rounded down, is taken");
        check.due(100 - 33, () -> house.value(0, 2), "100 times 1 by 3, rounded down, is taken");
        check.due(9999 + 35, () -> house.value(0, 3), "both are added");
        house.paint(0, -1, 0, 0, 3, 1);
        check.due(0, () -> house.value(0, 1), "none takes all of the value");
        check.due(9999 + 35 + 67L, () -> house.values(0), "none adds it nowhere");
        house.paint(0, -1, 5, 0, 1, 1);
        check.due(67 - 33, () -> house.value(0, 2), "half of 67, rounded down, is taken by none");
        house.setDivides(0, false);
        house.paint(0, 2, 7, 0, 1, 1);
        check.due(9999 + 35, () -> house.value(0, 3), "a layer that copies takes nothing");
        check.due(67 - 33, () -> house.value(0, 2), "a layer that copies adds nothing");
        house.paint(0, 2, 0, 0, 16, 16);
        check.due(0, () -> house.value(0, 3), "an area that is gone has the value 0");
        check.due(67 - 33, () -> house.value(0, 2), "nothing came of it in a layer that copies");
    }

    private static void paintWrong() {
        check.promise(3);
        Overlayer house = inSession();
        check.fails(INDEX, () -> house.paint(3, 0, 0, 0, 1, 1), "layer 3");
        check.fails(INDEX, () -> house.paint(-1, 0, 0, 0, 1, 1), "layer -1");
        check.fails(ARGUMENT, () -> house.paint(0, 10, 0, 0, 1, 1), "area 10");
        check.fails(ARGUMENT, () -> house.paint(0, -2, 0, 0, 1, 1), "area -2");
        check.fails(ARGUMENT, () -> house.paint(0, 0, -1, 0, 2, 1), "x -1");
        check.fails(ARGUMENT, () -> house.paint(0, 0, 0, -1, 1, 2), "y -1");
        check.fails(ARGUMENT, () -> house.paint(0, 0, 0, 0, 0, 1), "dx 0");
        check.fails(ARGUMENT, () -> house.paint(0, 0, 0, 0, 1, 0), "dy 0");
        check.fails(ARGUMENT, () -> house.paint(0, 0, 15, 0, 2, 1), "beyond x 15");
        check.fails(ARGUMENT, () -> house.paint(0, 0, 0, 15, 1, 2), "beyond y 15");
        check.fails(ARGUMENT, () -> house.paint(0, 0, 16, 0, 1, 1), "x 16");
        check.fails(ARGUMENT, () -> house.paint(0, 0, 0, 16, 1, 1), "y 16");
        check.fails(ARGUMENT, () -> house.paint(0, 0, 1, 0, Integer.MAX_VALUE, 1), "wrapping dx");
        check.fails(ARGUMENT, () -> house.paint(0, 0, 0, 1, 1, Integer.MAX_VALUE), "wrapping dy");
        check.fails(ARGUMENT, () -> house.paint(0, 0, Integer.MIN_VALUE, 0, 1, 1), "lowest x");
        check.due(0, house::drop, "calls that throw change nothing");
        check.fails(STATE, () -> house.paint(0, 0, 0, 0, 1, 1), "no session");
        check.fails(ARGUMENT, () -> house.paint(0, 10, 0, 0, 1, 1), "area 10 ahead of no session");
        check.fails(INDEX, () -> house.paint(3, 10, 0, 0, 0, 1), "layer 3 ahead of area 10");
    }

    private static void split() {
        check.promise(4);
        Overlayer house = inSession();
        house.paint(0, 1, 2, 2, 5, 4);
        house.setValue(0, 1, 101);
        check.due(8, () -> house.split(0, 1, 2, 'x', 5), "squares with at least x 5");
        check.due(2, () -> house.areaAt(0, 16 * 2 + 5), "a square on the line");
        check.due(1, () -> house.areaAt(0, 16 * 2 + 4), "a square ahead of the line");
        check.due(101 - 40, () -> house.value(0, 1), "8 of 20 squares take 40 of 101");
        check.due(40, () -> house.value(0, 2), "and bring it to the other area");
        check.due(9, () -> house.split(0, 1, 3, 'y', 3), "squares with at least y 3");
        check.due(1, () -> house.areaAt(0, 16 * 2 + 2), "a square above the line");
        check.due(3, () -> house.areaAt(0, 16 * 5 + 4), "a square below the line");
        check.due(0, () -> house.split(0, 1, 4, 'y', 15), "a line that meets no square");
        check.due(3, () -> house.split(0, 1, 4, 'x', 0), "the line 0 takes all squares");
        check.due(0, () -> house.size(0, 1), "the area is gone");
        check.due(0, () -> house.value(0, 1), "its value, too");
        check.due(61 - 45, () -> house.value(0, 4), "the value went along");
        check.due(0, () -> house.split(0, 1, 5, 'x', 0), "an area without squares");
        house.paint(2, 0, 0, 0, 16, 16);
        check.due(16, () -> house.split(2, 0, 9, 'y', 15), "the last row");
        check.due(15, () -> house.split(2, 0, 8, 'x', 15), "the last column less the last row");
        check.due(15 * 15, () -> house.split(2, 0, 7, 'x', 0), "all the rest");
        check.due(7, () -> house.areaAt(2, 0), "the square 0 among it");
        check.due(9, () -> house.areaAt(2, 255), "the square 255 with the last row");
        house.paint(1, 0, 15, 15, 1, 1);
        check.due(1, () -> house.split(1, 0, 9, 'x', 15), "the line 15");
        check.due(1, () -> house.split(1, 9, 0, 'y', 15), "the line 15 along y");
    }

    private static void splitWrong() {
        check.promise(4);
        Overlayer house = inSession();
        house.paint(0, 0, 0, 0, 2, 1);
        house.paint(0, 1, 2, 0, 2, 1);
        check.fails(INDEX, () -> house.split(3, 0, 2, 'x', 0), "layer 3");
        check.fails(INDEX, () -> house.split(-1, 0, 2, 'x', 0), "layer -1");
        check.fails(ARGUMENT, () -> house.split(0, 10, 2, 'x', 0), "area 10");
        check.fails(ARGUMENT, () -> house.split(0, -1, 2, 'x', 0), "area -1");
        check.fails(ARGUMENT, () -> house.split(0, 0, 10, 'x', 0), "other 10");
        check.fails(ARGUMENT, () -> house.split(0, 0, -1, 'x', 0), "other -1");
        check.fails(ARGUMENT, () -> house.split(0, 0, 0, 'x', 0), "both the same");
        check.fails(ARGUMENT, () -> house.split(0, 0, 2, 'z', 0), "axis z");
        check.fails(ARGUMENT, () -> house.split(0, 0, 2, 'X', 0), "axis X");
        check.fails(ARGUMENT, () -> house.split(0, 0, 2, 'x', -1), "the line -1");
        check.fails(ARGUMENT, () -> house.split(0, 0, 2, 'y', 16), "the line 16");
        check.fails(UNSUPPORTED, () -> house.split(0, 0, 1, 'x', 1), "the other has squares");
        check.fails(ARGUMENT, () -> house.split(0, 0, 1, 'z', 1), "axis ahead of its squares");
        check.due(2, () -> house.size(0, 0), "calls that throw change nothing");
        house.keep();
        check.fails(STATE, () -> house.split(0, 0, 1, 'x', 1), "no session ahead of its squares");
        check.fails(ARGUMENT, () -> house.split(0, 0, 0, 'x', 1), "both the same, no session");
        check.fails(INDEX, () -> house.split(3, 0, 0, 'x', 1), "layer ahead of areas");
    }

    private static void merge() {
        check.promise(5);
        Overlayer house = inSession();
        house.paint(0, 1, 0, 0, 3, 1);
        house.paint(0, 2, 5, 5, 2, 2);
        house.setValue(0, 1, 7);
        house.setValue(0, 2, 30);
        check.due(3, () -> house.merge(0, 1, 2), "all three squares");
        check.due(37, () -> house.value(0, 2), "the whole value");
        check.due(0, () -> house.value(0, 1), "nothing stays");
        check.due(2, () -> house.areaAt(0, 0), "a square that changed");
        check.due(0, () -> house.merge(0, 1, 2), "an area without squares");
        check.due(7, () -> house.merge(0, 2, 9), "into an area without squares");
        check.due(37, () -> house.value(0, 9), "the value went along");
        house.setDivides(0, false);
        check.due(7, () -> house.merge(0, 9, 0), "in a layer that copies");
        check.due(0L, () -> house.values(0), "the value is lost in a layer that copies");
        house.paint(1, 0, 0, 0, 16, 16);
        check.due(256, () -> house.merge(1, 0, 9), "the whole layer");
        house.paint(1, -1, 0, 0, 16, 16);
        check.fails(INDEX, () -> house.merge(3, 0, 1), "layer 3");
        check.fails(INDEX, () -> house.merge(-1, 0, 1), "layer -1");
        check.fails(ARGUMENT, () -> house.merge(0, 10, 1), "area 10");
        check.fails(ARGUMENT, () -> house.merge(0, 0, 10), "into 10");
        check.fails(ARGUMENT, () -> house.merge(0, -1, 0), "area -1");
        check.fails(ARGUMENT, () -> house.merge(0, 0, -1), "into -1");
        check.fails(ARGUMENT, () -> house.merge(0, 0, 0), "both the same");
        check.due(7, () -> house.size(0, 0), "calls that throw change nothing");
        house.keep();
        check.fails(STATE, () -> house.merge(0, 0, 1), "no session");
        check.fails(ARGUMENT, () -> house.merge(0, 0, 0), "both the same, no session");
        check.fails(INDEX, () -> house.merge(3, 0, 0), "layer ahead of areas");
    }

    private static void mergeGrown() {
        check.promise(5);
        Overlayer house = inSession();
        house.paint(0, 0, 0, 0, 16, 15);
        for (int time = 0; time < 120; time++) {
            house.setDivides(0, false);
            house.paint(0, 1, 0, 15, 1, 1);
            house.setValue(0, 1, 9999);
            house.setDivides(0, true);
            house.merge(0, 1, 0);
        }
        int sum = 120 * 9999;
        check.due(sum, () -> house.value(0, 0), "a value far above 9999");
        house.paint(0, 2, 0, 0, 16, 15);
        int part = (int) (sum * 240L / 241);
        check.due(part, () -> house.value(0, 2), "its share is not wrapped around");
    }

    private static void setValue() {
        check.promise(6);
        Overlayer house = inSession();
        house.paint(0, 0, 0, 0, 2, 2);
        check.due(0, () -> house.setValue(0, 0, 9999), "the first value");
        check.due(9999, () -> house.setValue(0, 0, 0), "the value before");
        check.due(0, () -> house.setValue(0, 0, 12), "0 is a value");
        check.due(12, () -> house.value(0, 0), "the value now");
        check.fails(INDEX, () -> house.setValue(3, 0, 1), "layer 3");
        check.fails(INDEX, () -> house.setValue(-1, 0, 1), "layer -1");
        check.fails(ARGUMENT, () -> house.setValue(0, 10, 1), "area 10");
        check.fails(ARGUMENT, () -> house.setValue(0, -1, 1), "area -1");
        check.fails(ARGUMENT, () -> house.setValue(0, 0, -1), "value -1");
        check.fails(ARGUMENT, () -> house.setValue(0, 0, 10000), "value 10000");
        check.fails(UNSUPPORTED, () -> house.setValue(0, 1, 1), "no squares");
        check.fails(ARGUMENT, () -> house.setValue(0, 1, 10000), "value ahead of squares");
        check.due(12, () -> house.value(0, 0), "calls that throw change nothing");
        house.keep();
        check.fails(STATE, () -> house.setValue(0, 1, 1), "no session ahead of no squares");
        check.fails(ARGUMENT, () -> house.setValue(0, 0, -1), "value ahead of no session");
        check.fails(INDEX, () -> house.setValue(3, 10, 1), "layer ahead of area");
    }

    private static void setDivides() {
        check.promise(7);
        Overlayer house = new Overlayer();
        check.due(true, () -> house.setDivides(0, true), "layers divide at first");
        check.due(true, () -> house.setDivides(0, false), "it divided");
        check.due(false, () -> house.setDivides(0, false), "it copied");
        check.due(true, () -> house.setDivides(2, false), "each layer by itself");
        check.fails(INDEX, () -> house.setDivides(3, true), "layer 3");
        check.fails(INDEX, () -> house.setDivides(-1, true), "layer -1");
        house.begin(0);
        house.paint(0, 0, 0, 0, 2, 1);
        house.setValue(0, 0, 10);
        house.paint(0, 1, 0, 0, 1, 1);
        check.due(10L, () -> house.values(0), "a layer that copies");
        check.due(0, () -> house.value(0, 1), "a layer that copies adds nothing");
        check.due(false, () -> house.setDivides(0, true), "from now on it divides");
        house.paint(0, 0, 0, 0, 1, 1);
        check.due(10, () -> house.value(0, 0), "there was nothing to divide");
        house.paint(0, 1, 0, 0, 1, 1);
        check.due(5, () -> house.value(0, 1), "now it is divided");
        house.setDivides(0, false);
        house.drop();
        check.due(false, () -> house.setDivides(0, true), "it stays behind a drop");
    }

    private static void sign() {
        check.promise(8);
        Overlayer house = new Overlayer();
        house.addRule('i', 0, 1);
        house.addRule('n', 0, 1);
        house.addRule('a', 0, 1);
        check.fails(STATE, () -> house.sign(0), "no session");
        check.fails(NO_ELEMENT, () -> house.sign(3), "rule 3 ahead of no session");
        house.begin(0);
        check.fails(NO_ELEMENT, () -> house.sign(3), "rule 3");
        check.fails(NO_ELEMENT, () -> house.sign(-1), "rule -1");
        check.fails(NO_ELEMENT, () -> house.sign(6), "rule 6");
        check.due(1, () -> house.sign(2), "one is signed");
        check.due(1, () -> house.sign(2), "signed twice, it counts once");
        check.due(2, () -> house.sign(0), "two are signed");
        check.due(3, () -> house.sign(1), "three are signed");
        house.keep();
        house.begin(0);
        check.due(1, () -> house.sign(1), "a new session has signed nothing");
        house.drop();
        house.begin(0);
        check.due(1, () -> house.sign(0), "nor has one behind a drop");
    }

    private static void keep() {
        check.promise(9);
        Overlayer house = new Overlayer();
        check.fails(STATE, house::keep, "no session");
        house.addRule('i', 0, 1);
        house.addRule('n', 0, 2);
        house.begin(2);
        check.due(1, house::keep, "an empty session");
        check.fails(STATE, house::keep, "the session has ended");
        house.begin(2);
        house.paint(0, 4, 3, 3, 1, 1);
        check.fails(UNSUPPORTED, house::keep, "rule 0 is broken");
        check.due(4, () -> house.areaAt(0, 51), "a keep that throws keeps the session");
        check.due(-1, () -> house.areaThen(0, 51, 1), "nothing is kept by it");
        house.sign(1);
        check.fails(UNSUPPORTED, house::keep, "another rule is signed");
        house.sign(0);
        check.due(2, house::keep, "the rule is signed");
        check.due(4, () -> house.areaThen(0, 51, 2), "the squares are kept");
        house.begin(3);
        check.fails(UNSUPPORTED, house::keep, "a rule is signed for one session");
        house.paint(1, 0, 3, 3, 1, 1);
        check.due(3, house::keep, "the rule is mended");
        check.due(4, () -> house.areaAt(0, 51), "the squares stay behind a keep");
        check.due(true, house::isSound, "sound behind a keep");
        house.begin(4);
        house.paint(2, 1, 3, 3, 1, 1);
        check.fails(UNSUPPORTED, house::keep, "the last rule is broken");
        house.sign(1);
        check.due(4, house::keep, "the last rule is signed");
    }

    private static void drop() {
        check.promise(10);
        Overlayer house = new Overlayer();
        check.fails(STATE, house::drop, "no session");
        house.begin(0);
        house.paint(0, 1, 0, 0, 4, 1);
        house.setValue(0, 1, 40);
        house.keep();
        house.begin(1);
        check.due(0, house::drop, "nothing changed");
        check.fails(STATE, house::drop, "the session has ended");
        house.begin(1);
        house.paint(0, 2, 0, 0, 2, 1);
        house.paint(0, 1, 0, 0, 1, 1);
        house.paint(1, 3, 0, 0, 3, 1);
        house.paint(2, 3, 0, 0, 2, 2);
        house.setValue(0, 1, 9);
        check.due(1 + 3 + 4, house::drop, "squares that are as at first do not count");
        check.due(4, () -> house.size(0, 1), "the size is back");
        check.due(0, () -> house.size(0, 2), "the other size is back");
        check.due(40, () -> house.value(0, 1), "the value is back");
        check.due(0, () -> house.value(0, 2), "the other value is back");
        check.due(-1, () -> house.areaAt(2, 17), "the squares are back");
        check.due(true, house::isSound, "sound behind a drop");
        check.due(1, () -> house.begin(2), "the time stays");
        house.paint(0, 7, 0, 0, 1, 1);
        check.due(30, () -> house.value(0, 1), "values are shared out by the sizes that are back");
    }

    private static void dropAll() {
        check.promise(10);
        Overlayer house = new Overlayer();
        house.begin(0);
        for (int layer = 0; layer < 3; layer++) {
            for (int area = 0; area < 10; area++) {
                house.paint(layer, area, area, layer, 2, 1);
                house.setValue(layer, area, 100 * layer + area + 1);
            }
        }
        house.keep();
        house.begin(0);
        for (int layer = 0; layer < 3; layer++) {
            house.paint(layer, -1, 0, 0, 16, 16);
        }
        check.due(33, house::drop, "eleven squares in each layer");
        for (int layer = 0; layer < 3; layer++) {
            for (int area = 0; area < 10; area++) {
                final int l = layer;
                final int a = area;
                // Each area but the last lost one of two squares with half of its value.
                int value = 100 * l + a + 1;
                int left = a < 9 ? value - value / 2 : value;
                check.due(a < 9 ? 1 : 2, () -> house.size(l, a), "the size of each area is back");
                check.due(left, () -> house.value(l, a), "the value of each area is back");
            }
        }
    }

    private static void dropLeaves() {
        check.promise(10);
        Overlayer house = new Overlayer();
        house.checkOut(0, 0, 0, 2, 2);
        house.change(0, 0, 5);
        house.begin(0);
        house.name(0, 5, 1);
        house.reconcile(0, 'v');
        house.drop();
        check.due(1, () -> house.name(0, 5, 2), "names stay");
        check.due(0, () -> house.conflicts(0), "the version is based on what the layer was");
        check.due(5, () -> house.change(0, 0, 4), "its squares stay");
        check.due(1, () -> house.conflicts(0), "changed by both against the base that stays");
    }
}
