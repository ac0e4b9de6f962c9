/** Promises 11 to 13: rules. */
public final class RulesTest {
    private static final Class<IndexOutOfBoundsException> INDEX = IndexOutOfBoundsException.class;
    private static final Class<IllegalArgumentException> ARGUMENT = IllegalArgumentException.class;
    private static final Class<IllegalStateException> STATE = IllegalStateException.class;
    private static final Class<java.util.NoSuchElementException> NO_ELEMENT =
            java.util.NoSuchElementException.class;

    private static final Checks check = new Checks("RulesTest");

    public static void main(String[] args) {
        addRule();
        inside();
        notOver();
        along();
        leastBroken();
        check.end();
    }

    private static void addRule() {
        check.promise(11);
        Overlayer house = new Overlayer();
        check.fails(ARGUMENT, () -> house.addRule('x', 0, 1), "kind x");
        check.fails(ARGUMENT, () -> house.addRule('I', 0, 1), "kind I");
        check.fails(ARGUMENT, () -> house.addRule('x', 0, 0), "kind ahead of layers");
        check.fails(INDEX, () -> house.addRule('i', 0, 0), "both the same");
        check.fails(INDEX, () -> house.addRule('n', 3, 0), "first 3");
        check.fails(INDEX, () -> house.addRule('a', 0, 3), "second 3");
        check.fails(INDEX, () -> house.addRule('i', -1, 0), "first -1");
        check.fails(INDEX, () -> house.addRule('i', 0, -1), "second -1");
        check.due(0, () -> house.addRule('i', 0, 1), "the first rule");
        check.due(1, () -> house.addRule('n', 1, 0), "the second rule");
        check.due(2, () -> house.addRule('a', 2, 0), "the third rule");
        check.due(3, () -> house.addRule('i', 0, 1), "the same rule again");
        house.begin(0);
        check.fails(STATE, () -> house.addRule('i', 0, 1), "in a session");
        check.fails(INDEX, () -> house.addRule('i', 1, 1), "layers ahead of the session");
        check.fails(INDEX, () -> house.addRule('i', 3, 1), "first 3 ahead of the session");
        check.fails(INDEX, () -> house.addRule('i', -1, 1), "first -1 ahead of the session");
        check.fails(INDEX, () -> house.addRule('i', 1, 3), "second 3 ahead of the session");
        check.fails(INDEX, () -> house.addRule('i', 1, -1), "second -1 ahead of the session");
        check.fails(ARGUMENT, () -> house.addRule('b', 1, 0), "kind ahead of the session");
        house.keep();
        check.due(4, () -> house.addRule('i', 2, 1), "the fifth rule");
        check.due(5, () -> house.addRule('a', 1, 2), "the sixth rule");
        check.fails(STATE, () -> house.addRule('i', 0, 1), "a seventh rule");
        check.fails(INDEX, () -> house.addRule('i', 0, 3), "layers ahead of six rules");
        check.due(0, () -> house.broken(5), "the sixth rule is there");
        check.fails(NO_ELEMENT, () -> house.broken(6), "no rule 6");
    }

    private static void inside() {
        check.promise(12);
        Overlayer house = new Overlayer();
        house.addRule('i', 0, 1);
        house.addRule('i', 1, 0);
        check.fails(NO_ELEMENT, () -> house.broken(2), "rule 2");
        check.fails(NO_ELEMENT, () -> house.broken(-1), "rule -1");
        check.fails(NO_ELEMENT, () -> house.broken(Integer.MAX_VALUE), "the highest rule");
        house.begin(0);
        house.paint(0, 1, 0, 0, 4, 2);
        check.due(8, () -> house.broken(0), "no square is inside");
        check.due(0, () -> house.broken(1), "nothing to be inside");
        house.paint(1, 7, 2, 0, 5, 1);
        check.due(6, () -> house.broken(0), "two squares are inside");
        check.due(3, () -> house.broken(1), "the other way round");
        house.paint(1, 8, 0, 0, 16, 16);
        check.due(0, () -> house.broken(0), "all are inside, of whichever area");
    }

    private static void notOver() {
        check.promise(12);
        Overlayer house = new Overlayer();
        house.addRule('n', 0, 2);
        house.begin(0);
        house.paint(0, 0, 14, 14, 2, 2);
        check.due(0, () -> house.broken(0), "nothing over it");
        house.paint(2, 0, 15, 0, 1, 16);
        check.due(2, () -> house.broken(0), "two squares over it");
        house.paint(2, 1, 0, 0, 16, 16);
        check.due(4, () -> house.broken(0), "all of it");
        house.drop();
        check.due(0, () -> house.broken(0), "nothing behind a drop");
    }

    private static void along() {
        check.promise(12);
        Overlayer house = new Overlayer();
        house.addRule('a', 0, 1);
        house.begin(0);
        check.due(0, () -> house.broken(0), "no differences");
        house.paint(0, 1, 5, 5, 2, 2);
        check.due(8, () -> house.broken(0), "the rim of a box, both to none in the second");
        house.paint(1, 3, 5, 5, 2, 2);
        check.due(0, () -> house.broken(0), "along the rim in the second");
        house.paint(0, 2, 6, 5, 1, 2);
        check.due(2, () -> house.broken(0), "two areas in the first, one in the second");
        house.paint(1, 4, 6, 5, 1, 1);
        check.due(1, () -> house.broken(0), "along half of it");
        house.paint(1, -1, 0, 0, 16, 16);
        house.paint(0, -1, 0, 0, 16, 16);
        house.paint(0, 0, 0, 0, 16, 8);
        check.due(16, () -> house.broken(0), "a line through the map");
        house.paint(0, 0, 0, 0, 16, 16);
        house.paint(0, 1, 15, 0, 1, 8);
        check.due(9, () -> house.broken(0), "rows do not hang together at their ends");
    }

    private static void leastBroken() {
        check.promise(13);
        Overlayer house = new Overlayer();
        check.fails(NO_ELEMENT, house::leastBroken, "no rules");
        house.addRule('n', 0, 2);
        house.addRule('i', 0, 1);
        house.addRule('i', 2, 1);
        house.addRule('i', 2, 0);
        check.fails(NO_ELEMENT, house::leastBroken, "none is broken");
        house.begin(0);
        house.paint(0, 0, 0, 0, 5, 1);
        check.due(1, house::leastBroken, "only rule 1 is broken");
        house.paint(2, 0, 6, 0, 3, 1);
        check.due(2, house::leastBroken, "of several with the fewest the lowest");
        house.paint(2, 0, 5, 0, 5, 1);
        check.due(1, house::leastBroken, "all three with five");
        house.paint(2, 0, 0, 0, 1, 1);
        check.due(0, house::leastBroken, "rule 0 is broken at one");
        house.paint(2, 0, 0, 0, 5, 1);
        house.paint(1, 0, 0, 0, 8, 1);
        house.paint(2, 0, 15, 15, 1, 1);
        house.paint(1, 0, 15, 15, 1, 1);
        house.paint(2, -1, 6, 0, 10, 1);
        check.due(3, house::leastBroken, "the last rule is broken at two");
    }
}
