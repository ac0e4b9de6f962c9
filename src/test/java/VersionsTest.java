/** Promises 24 to 28: versions. */
public final class VersionsTest {
    private static final Class<IndexOutOfBoundsException> INDEX = IndexOutOfBoundsException.class;
    private static final Class<IllegalArgumentException> ARGUMENT = IllegalArgumentException.class;
    private static final Class<IllegalStateException> STATE = IllegalStateException.class;
    private static final Class<java.util.NoSuchElementException> NO_ELEMENT =
            java.util.NoSuchElementException.class;

    private static final Checks check = new Checks("VersionsTest");

    public static void main(String[] args) {
        checkOut();
        change();
        conflicts();
        clashes();
        reconcileAlone();
        reconcileCorners();
        reconcileSides();
        reconcileShares();
        reconcileWrong();
        check.end();
    }

    private static void checkOut() {
        check.promise(24);
        Overlayer house = new Overlayer();
        check.fails(INDEX, () -> house.checkOut(3, 0, 0, 1, 1), "layer 3");
        check.fails(INDEX, () -> house.checkOut(-1, 0, 0, 0, 1), "layer ahead of box");
        check.fails(ARGUMENT, () -> house.checkOut(0, 0, 0, 0, 1), "dx 0");
        check.fails(ARGUMENT, () -> house.checkOut(0, 0, 0, 1, 0), "dy 0");
        check.fails(ARGUMENT, () -> house.checkOut(0, 0, 0, -1, 1), "dx -1");
        check.fails(ARGUMENT, () -> house.checkOut(0, -1, 0, 1, 1), "x -1");
        check.fails(ARGUMENT, () -> house.checkOut(0, 0, -1, 1, 1), "y -1");
        check.fails(ARGUMENT, () -> house.checkOut(0, 15, 0, 2, 1), "beyond x 15");
        check.fails(ARGUMENT, () -> house.checkOut(0, 0, 15, 1, 2), "beyond y 15");
        check.fails(ARGUMENT, () -> house.checkOut(0, 16, 0, 1, 1), "x 16");
        check.fails(ARGUMENT, () -> house.checkOut(0, 0, 16, 1, 1), "y 16");
        check.fails(ARGUMENT, () -> house.checkOut(0, 5, 5, Integer.MAX_VALUE, 1), "wrapping dx");
        check.fails(ARGUMENT, () -> house.checkOut(0, 5, 5, 1, Integer.MAX_VALUE), "wrapping dy");
        house.begin(0);
        check.fails(STATE, () -> house.checkOut(0, 0, 0, 1, 1), "in a session");
        check.fails(ARGUMENT, () -> house.checkOut(0, 0, 0, 1, 17), "box ahead of the session");
        house.paint(1, 6, 0, 0, 2, 2);
        house.keep();
        check.due(0, () -> house.checkOut(1, 1, 1, 15, 15), "the first version");
        check.due(1, () -> house.checkOut(1, 0, 0, 16, 16), "the whole layer");
        check.due(2, () -> house.checkOut(2, 15, 15, 1, 1), "the last square");
        check.fails(STATE, () -> house.checkOut(0, 0, 0, 1, 1), "a fourth version");
        check.fails(ARGUMENT, () -> house.checkOut(0, 0, 0, 17, 1), "box ahead of three versions");
        check.due(6, () -> house.change(0, 17, 0), "the squares are as they are now");
        check.due(6, () -> house.change(1, 17, 0), "each version by itself");
    }

    private static void change() {
        check.promise(25);
        Overlayer house = new Overlayer();
        house.begin(0);
        house.paint(0, 1, 0, 0, 4, 4);
        house.setValue(0, 1, 16);
        house.keep();
        house.checkOut(0, 2, 3, 3, 2);
        check.due(1, () -> house.change(0, 16 * 3 + 2, 4), "the first square of the box");
        check.due(4, () -> house.change(0, 16 * 3 + 2, -1), "the area before");
        check.due(-1, () -> house.change(0, 16 * 3 + 2, 0), "none before");
        check.due(-1, () -> house.change(0, 16 * 4 + 4, 9), "the last square of the box");
        check.due(1, () -> house.areaAt(0, 16 * 3 + 2), "the layer stays");
        check.due(16, () -> house.value(0, 1), "the values stay");
        check.fails(INDEX, () -> house.change(0, 16 * 3 + 1, 0), "left of the box");
        check.fails(INDEX, () -> house.change(0, 16 * 3 + 5, 0), "right of the box");
        check.fails(INDEX, () -> house.change(0, 16 * 2 + 2, 0), "above the box");
        check.fails(INDEX, () -> house.change(0, 16 * 5 + 2, 0), "below the box");
        check.fails(INDEX, () -> house.change(0, -1, 0), "square -1");
        check.fails(INDEX, () -> house.change(0, 256, 0), "square 256");
        check.fails(INDEX, () -> house.change(0, Integer.MIN_VALUE, 0), "the lowest square");
        check.fails(ARGUMENT, () -> house.change(0, 16 * 3 + 2, 10), "area 10");
        check.fails(ARGUMENT, () -> house.change(0, 16 * 3 + 2, -2), "area -2");
        check.fails(INDEX, () -> house.change(0, 0, 10), "square ahead of area");
        check.fails(NO_ELEMENT, () -> house.change(1, -1, 10), "version ahead of square");
        check.fails(NO_ELEMENT, () -> house.change(-1, 0, 0), "version -1");
        check.fails(NO_ELEMENT, () -> house.change(3, 0, 0), "version 3");
        check.due(0, () -> house.change(0, 16 * 3 + 2, 1), "calls that throw change nothing");
        house.begin(0);
        check.due(1, () -> house.change(0, 16 * 3 + 2, 5), "in a session");
        house.drop();
        check.due(5, () -> house.change(0, 16 * 3 + 2, 1), "a drop leaves versions");
    }

    private static void conflicts() {
        check.promise(26);
        Overlayer house = new Overlayer();
        check.fails(NO_ELEMENT, () -> house.conflicts(0), "no versions");
        house.checkOut(0, 0, 0, 4, 4);
        check.fails(NO_ELEMENT, () -> house.conflicts(1), "version 1");
        check.fails(NO_ELEMENT, () -> house.conflicts(-1), "version -1");
        house.change(0, 0, 1);
        house.change(0, 1, 1);
        house.change(0, 2, 1);
        check.due(0, () -> house.conflicts(0), "changed by the version alone");
        house.begin(0);
        house.paint(0, 2, 1, 0, 1, 1);
        house.paint(0, 1, 2, 0, 1, 1);
        house.paint(0, 3, 3, 0, 2, 1);
        check.due(1, () -> house.conflicts(0), "by both, to unlike areas");
        house.change(0, 1, 2);
        check.due(0, () -> house.conflicts(0), "by both, to the same area");
        house.change(0, 1, -1);
        check.due(0, () -> house.conflicts(0), "changed by the layer alone");
        house.change(0, 3, 9);
        check.due(1, () -> house.conflicts(0), "another conflict");
        house.drop();
        check.due(0, () -> house.conflicts(0), "the layer is as at first");
    }

    private static void clashes() {
        check.promise(27);
        Overlayer house = new Overlayer();
        check.fails(NO_ELEMENT, () -> house.clashes(0), "no versions");
        house.checkOut(1, 0, 0, 16, 4);
        check.fails(NO_ELEMENT, () -> house.clashes(1), "version 1");
        check.fails(NO_ELEMENT, () -> house.clashes(-1), "version -1");
        check.due(0, () -> house.clashes(0), "no conflicts");
        house.begin(0);
        house.paint(1, 9, 0, 0, 16, 16);
        check.due(0, () -> house.clashes(0), "changed by the layer alone");
        house.change(0, 0, 1);
        house.change(0, 17, 2);
        check.due(2, () -> house.clashes(0), "two at a corner");
        house.change(0, 1, 3);
        check.due(1, () -> house.clashes(0), "in more steps, of whichever areas");
        check.due(3, () -> house.conflicts(0), "three conflicts");
        house.change(0, 15, 1);
        house.change(0, 32, 1);
        check.due(3, () -> house.clashes(0), "rows do not hang together at their ends");
        house.change(0, 16, 9);
        check.due(3, () -> house.clashes(0), "the same area is no conflict");
        house.change(0, 16, 4);
        check.due(2, () -> house.clashes(0), "a conflict that joins");
        check.due(1, () -> house.pieces(1, 0), "overlays are told as they are");
        house.drop();
        check.due(0, () -> house.clashes(0), "none behind a drop");
    }

    private static void reconcileAlone() {
        check.promise(28);
        Overlayer house = new Overlayer();
        house.begin(0);
        house.paint(0, 1, 0, 0, 4, 1);
        house.keep();
        house.checkOut(0, 0, 0, 4, 2);
        house.change(0, 0, 2);
        house.change(0, 1, -1);
        house.change(0, 19, 3);
        house.change(0, 3, 4);
        house.begin(1);
        house.paint(0, 4, 3, 0, 1, 1);
        house.paint(0, 5, 2, 0, 1, 1);
        house.paint(0, 6, 8, 8, 1, 1);
        check.due(3, () -> house.reconcile(0, 'l'), "what the version alone changed");
        check.due(2, () -> house.areaAt(0, 0), "given as the version tells");
        check.due(-1, () -> house.areaAt(0, 1), "none is told, too");
        check.due(5, () -> house.areaAt(0, 2), "changed by the layer alone");
        check.due(4, () -> house.areaAt(0, 3), "changed by both alike");
        check.due(3, () -> house.areaAt(0, 19), "the last square of the box");
        check.due(0, () -> house.reconcile(0, 'v'), "nothing is left");
        check.due(5, () -> house.change(0, 2, 7), "the version is what the layer is");
        house.paint(0, 8, 2, 0, 1, 1);
        check.due(1, () -> house.conflicts(0), "the base is what the layer was");
        house.keep();
        check.due(1, () -> house.authorOf(0, 0, 2), "the session's author");
        check.due(true, house::isSound, "sound behind it");
    }

    private static void reconcileCorners() {
        check.promise(28);
        Overlayer house = new Overlayer();
        house.begin(0);
        house.paint(0, 1, 0, 0, 16, 16);
        house.keep();
        house.checkOut(0, 0, 0, 16, 16);
        house.change(0, 0, 2);
        house.change(0, 255, 3);
        house.begin(0);
        check.due(2, () -> house.reconcile(0, 'l'), "the first and the last square");
        check.due(2, () -> house.areaAt(0, 0), "the first square");
        check.due(3, () -> house.areaAt(0, 255), "the last square");
        check.due(0, () -> house.reconcile(0, 'l'), "both are in the base now");
        house.paint(0, 4, 0, 0, 16, 16);
        check.due(0, () -> house.conflicts(0), "the layer alone changed all");
    }

    private static void reconcileSides() {
        check.promise(28);
        Overlayer house = new Overlayer();
        house.checkOut(0, 0, 0, 16, 16);
        house.checkOut(0, 0, 0, 16, 16);
        for (int version = 0; version < 2; version++) {
            house.change(version, 5, 1);
            house.change(version, 250, 2);
        }
        house.begin(0);
        house.paint(0, 3, 5, 0, 1, 1);
        check.due(1, () -> house.reconcile(0, 'l'), "with l, conflicts are left");
        check.due(3, () -> house.areaAt(0, 5), "a conflict that is left");
        check.due(2, () -> house.areaAt(0, 250), "changed by the version alone");
        check.due(0, () -> house.conflicts(0), "the version's change is gone");
        check.due(3, () -> house.change(0, 5, 3), "its square is what the layer is");
        check.due(1, () -> house.conflicts(1), "the other version has its own base");
        check.due(1, () -> house.reconcile(1, 'v'), "with v, conflicts are given");
        check.due(1, () -> house.areaAt(0, 5), "a conflict that is given");
        check.due(0, () -> house.conflicts(1), "no conflict is left");
    }

    private static void reconcileShares() {
        check.promise(28);
        Overlayer house = new Overlayer();
        house.begin(0);
        house.paint(0, 1, 0, 0, 3, 1);
        house.setValue(0, 1, 10);
        house.keep();
        house.checkOut(0, 0, 0, 2, 1);
        house.change(0, 0, 2);
        house.change(0, 1, 2);
        house.begin(0);
        check.due(2, () -> house.reconcile(0, 'v'), "two squares");
        check.due(3 + 3, () -> house.value(0, 2), "each an edit by itself: 10 by 3, then 7 by 2");
        check.due(4, () -> house.value(0, 1), "what is left");
        house.drop();
        check.due(10, () -> house.value(0, 1), "values are back behind a drop");
    }

    private static void reconcileWrong() {
        check.promise(28);
        Overlayer house = new Overlayer();
        check.fails(NO_ELEMENT, () -> house.reconcile(0, 'x'), "version ahead of side");
        house.checkOut(0, 0, 0, 1, 1);
        house.change(0, 0, 1);
        check.fails(ARGUMENT, () -> house.reconcile(0, 'x'), "side ahead of no session");
        check.fails(STATE, () -> house.reconcile(0, 'v'), "no session");
        check.fails(STATE, () -> house.reconcile(0, 'l'), "no session, other side");
        house.begin(0);
        check.fails(ARGUMENT, () -> house.reconcile(0, 'V'), "side V");
        check.fails(NO_ELEMENT, () -> house.reconcile(1, 'v'), "version 1");
        check.fails(NO_ELEMENT, () -> house.reconcile(-1, 'v'), "version -1");
        check.due(-1, () -> house.areaAt(0, 0), "calls that throw change nothing");
        check.due(1, () -> house.reconcile(0, 'v'), "the change is still told");
    }
}
