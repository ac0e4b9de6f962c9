/** Promises 24 to 28: versions. */
final class VersionSentences {
    private static final int[] OFF_MAP = {-1, 16, Sentences.LEAST, Sentences.GREATEST};

    private final Sentences book;

    VersionSentences(Sentences book) {
        this.book = book;
    }

    void all() {
        checksOut();
        checkOutBox();
        checkOutWrong();
        checkOutState();
        changes();
        changeReturns();
        changeWrong();
        conflicts();
        clashes();
        reconciles();
        reconcileParameters();
        reconcileReturns();
        reconcileWrong();
    }

    private static Scene checkedOut(int layer, int x, int y, int dx, int dy) {
        return Scene.BETWEEN.with(house -> house.checkOut(layer, x, y, dx, dy));
    }

    /** The squares that a version of BETWEEN's holds, as it is the third one there. */
    private static String held(Overlayer house) {
        StringBuilder held = new StringBuilder();
        for (int square = 0; square < 256; square++) {
            int asked = square;
            if (Sentences.answer(house, h -> h.change(2, asked, 0)) instanceof Integer) {
                held.append(held.length() > 0 ? " " : "").append(square);
            }
        }
        return held.toString();
    }

    private void checksOut() {
        book.says(24, "Checks a version out.");
        book.refused(Sentences.NO_ELEMENT, Scene.BETWEEN, h -> h.conflicts(2), "ahead of it");
        book.due(0, checkedOut(0, 1, 1, 2, 2), h -> h.conflicts(2), "behind it: no conflicts");
        book.due(3, checkedOut(0, 1, 1, 2, 2), h -> h.change(2, 34, 0), "with the squares' areas");
        book.due(0, checkedOut(0, 1, 1, 2, 2).with(h -> h.begin(0)), h -> h.reconcile(2, 'v'),
                "nothing is changed by it");
        book.says(24, "`layer`: the layer");
        for (int each = 0; each < 3; each++) {
            int layer = each;
            Scene painted = Scene.BEGUN.with(house -> {
                for (int number = 0; number < 3; number++) {
                    house.paint(number, 4 + number, 0, 0, 1, 1);
                }
                house.keep();
                house.checkOut(layer, 0, 0, 1, 1);
            });
            book.due(4 + layer, painted, h -> h.change(0, 0, 9), "squares of layer " + layer);
            book.due(9, painted.with(house -> {
                house.change(0, 0, 9);
                house.begin(0);
                house.reconcile(0, 'v');
            }), h -> h.areaAt(layer, 0), "reconciled with layer " + layer);
        }
    }

    private void checkOutBox() {
        book.says(24, "`x`: the lowest x");
        book.due("80", checkedOut(0, 0, 5, 1, 1), h -> held(h), "x 0");
        book.due("81 82", checkedOut(0, 1, 5, 2, 1), h -> held(h), "x 1");
        book.due("95", checkedOut(0, 15, 5, 1, 1), h -> held(h), "x 15");
        book.says(24, "`y`: the lowest y");
        book.due("5", checkedOut(0, 5, 0, 1, 1), h -> held(h), "y 0");
        book.due("21 37", checkedOut(0, 5, 1, 1, 2), h -> held(h), "y 1");
        book.due("245", checkedOut(0, 5, 15, 1, 1), h -> held(h), "y 15");
        book.says(24, "`dx`: the number of squares along x");
        book.due("16", checkedOut(0, 0, 1, 1, 1), h -> held(h), "dx 1");
        book.due("29 30 31", checkedOut(0, 13, 1, 3, 1), h -> held(h), "dx 3, to the end");
        book.due("0 1 2 3 4 5 6 7 8 9 10 11 12 13 14 15", checkedOut(0, 0, 0, 16, 1),
                h -> held(h), "dx 16");
        book.says(24, "`dy`: the number of squares along y");
        book.due("1", checkedOut(0, 1, 0, 1, 1), h -> held(h), "dy 1");
        book.due("223 239 255", checkedOut(0, 15, 13, 1, 3), h -> held(h), "dy 3, to the end");
        book.due("15 31 47 63 79 95 111 127 143 159 175 191 207 223 239 255",
                checkedOut(0, 15, 0, 1, 16), h -> held(h), "dy 16");
        book.says(24, "Returns the number of the version.");
        book.due(0, Scene.NEW, h -> h.checkOut(2, 15, 15, 1, 1), "the first one");
        book.due(1, Scene.NEW.with(h -> h.checkOut(0, 0, 0, 1, 1)), h -> h.checkOut(0, 0, 0, 1, 1),
                "the second one, of the same box");
        book.due(2, Scene.BETWEEN, h -> h.checkOut(0, 0, 0, 16, 16), "the third one");
    }

    private void checkOutWrong() {
        book.says(24, "Throws `IndexOutOfBoundsException` if there is no such layer");
        book.refusedLayers(Scene.BETWEEN, (h, layer) -> h.checkOut(layer, 0, 0, 1, 1));
        book.says(24, "Throws `IllegalArgumentException` if a number is less than 1, or the box "
                + "reaches beyond the squares");
        Scene between = Scene.BETWEEN;
        Class<IllegalArgumentException> wrong = Sentences.ARGUMENT;
        book.refusedNumbers(wrong, between, (h, dx) -> h.checkOut(0, 15, 0, dx, 1), "dx at x 15",
                0, -1, 2, 16, Sentences.LEAST, Sentences.GREATEST);
        book.refusedNumbers(wrong, between, (h, dy) -> h.checkOut(0, 0, 15, 1, dy), "dy at y 15",
                0, -1, 2, 16, Sentences.LEAST, Sentences.GREATEST);
        book.refusedNumbers(wrong, between, (h, dx) -> h.checkOut(0, 0, 0, dx, 1), "dx at x 0",
                0, 17, Sentences.LEAST, Sentences.GREATEST);
        book.refusedNumbers(wrong, between, (h, dy) -> h.checkOut(0, 0, 0, 1, dy), "dy at y 0",
                0, 17, Sentences.LEAST, Sentences.GREATEST);
        book.refusedNumbers(wrong, between, (h, x) -> h.checkOut(0, x, 0, 1, 1), "x", OFF_MAP);
        book.refusedNumbers(wrong, between, (h, y) -> h.checkOut(0, 0, y, 1, 1), "y", OFF_MAP);
        book.refused(wrong, between, h -> h.checkOut(0, -1, 0, 2, 1), "from x -1 on");
        book.refused(wrong, between, h -> h.checkOut(0, 0, -1, 1, 2), "from y -1 on");
        book.refused(wrong, between, h -> h.checkOut(0, 1, 0, Sentences.GREATEST, 1), "x wraps");
        book.refused(wrong, between, h -> h.checkOut(0, 0, 1, 1, Sentences.GREATEST), "y wraps");
        book.refused(wrong, between,
                h -> h.checkOut(0, Sentences.LEAST, 0, Sentences.LEAST, 1), "x wraps to 0");
        book.refused(wrong, between,
                h -> h.checkOut(0, 0, Sentences.LEAST, 1, Sentences.LEAST), "y wraps to 0");
        book.due(2, between, h -> h.checkOut(0, 15, 15, 1, 1), "just at the end");
    }

    private void checkOutState() {
        book.says(24, "Throws `IllegalStateException` if there is a session, or there are 3 versions");
        book.refused(Sentences.STATE, Scene.BEGUN, h -> h.checkOut(0, 0, 0, 1, 1), "a session");
        book.refused(Sentences.STATE, Scene.WITHIN, h -> h.checkOut(0, 0, 0, 1, 1), "a session");
        book.refused(Sentences.STATE, Scene.FULL, h -> h.checkOut(0, 0, 0, 1, 1), "3 versions");
        book.refused(Sentences.STATE, Scene.ONE_LEFT, h -> h.checkOut(0, 0, 0, 1, 1), "3 versions");
        book.refused(Sentences.STATE, Scene.LAST_WITHIN, h -> h.checkOut(2, 0, 0, 1, 1), "both");
        book.due(2, Scene.WITHIN.with(h -> h.drop()), h -> h.checkOut(0, 0, 0, 1, 1), "dropped");
        book.due(2, Scene.BETWEEN, h -> h.checkOut(0, 0, 0, 1, 1), "2 versions");
    }

    private void changes() {
        book.says(25, "Gives a square to an area in a version.");
        Scene changed = Scene.BETWEEN.with(house -> house.change(0, 20, 8));
        book.due(8, changed, h -> h.change(0, 20, 0), "the square");
        book.due(7, changed, h -> h.change(0, 17, 0), "another square of the version");
        book.due(2, changed, h -> h.areaAt(0, 20), "the layer's own square");
        book.due(8, changed.with(h -> h.begin(0)), h -> {
            h.reconcile(0, 'l');
            return h.areaAt(0, 20);
        }, "it is given as the version tells");
        book.due(8, Scene.WITHIN.with(h -> h.change(0, 20, 8)), h -> h.change(0, 20, 0),
                "in a session");
        book.due(8, Scene.WITHIN.with(h -> h.change(0, 20, 8)), h -> {
            h.drop();
            return h.change(0, 20, 0);
        }, "behind a drop");
        book.says(25, "`version`: the number of the version");
        for (int each = 0; each < 9; each++) {
            int version = each / 3;
            int asked = each % 3;
            book.due(version == asked ? 6 : -1,
                    Scene.ALL_RULES_AND_VERSIONS.with(h -> h.change(version, 85, 6)),
                    h -> h.change(asked, 85, 0), "version " + version);
        }
        book.says(25, "`square`: the number of the square");
        for (int square : new int[] {0, 5, 80, 85}) {
            Scene one = Scene.BETWEEN.with(house -> house.change(0, square, 4));
            book.due(4, one, h -> h.change(0, square, 0), "a corner of the box");
        }
        book.due(4, checkedOut(2, 0, 0, 16, 16).with(h -> h.change(2, 255, 4)),
                h -> h.change(2, 255, 0), "the last square");
        book.says(25, "`area`: the area, or -1 for none");
        for (int area = -1; area < 10; area++) {
            int given = area;
            book.due(given, Scene.BETWEEN.with(h -> h.change(0, 20, given)),
                    h -> h.change(0, 20, 5), "the area " + given);
        }
    }

    private void changeReturns() {
        book.says(25, "Returns the area before, or -1.");
        book.due(1, Scene.BETWEEN, h -> h.change(0, 18, 5), "of the base");
        book.due(-1, Scene.BETWEEN, h -> h.change(0, 0, 5), "none by the base");
        book.due(7, Scene.BETWEEN, h -> h.change(0, 17, 5), "as it was changed before");
        book.due(-1, Scene.BETWEEN, h -> h.change(0, 35, 5), "none as it was changed before");
        book.due(9, Scene.BETWEEN.with(h -> h.change(0, 17, 9)), h -> h.change(0, 17, 9), "9");
        book.due(0, Scene.BETWEEN.with(h -> h.change(0, 17, 0)), h -> h.change(0, 17, 0), "0");
        book.due(1, Scene.WITHIN, h -> h.change(0, 33, 5), "whatever is edited now");
    }

    private void changeWrong() {
        book.says(25, "Throws `NoSuchElementException` if there is no such version");
        Sentences.NumberCall version = (h, number) -> h.change(number, 17, 1);
        int[] far = {-1, 3, Sentences.LEAST, Sentences.GREATEST};
        book.refusedNumbers(Sentences.NO_ELEMENT, Scene.NEW, version, "of none", 0, 1, 2);
        book.refusedNumbers(Sentences.NO_ELEMENT, Scene.WITHIN, version, "of two", 2);
        book.refusedNumbers(Sentences.NO_ELEMENT, Scene.WITHIN, version, "of two", far);
        book.refusedNumbers(Sentences.NO_ELEMENT, Scene.FULL, version, "of three", far);
        book.says(25, "Throws `IndexOutOfBoundsException` if the square is not in its box");
        Sentences.NumberCall square = (h, number) -> h.change(0, number, 1);
        book.refusedSquares(Scene.WITHIN, square);
        book.refusedNumbers(Sentences.INDEX, Scene.WITHIN, square, "right of it", 6, 15, 22, 86);
        book.refusedNumbers(Sentences.INDEX, Scene.WITHIN, square, "below it", 96, 101, 240, 255);
        book.refusedNumbers(Sentences.INDEX, Scene.WITHIN, (h, number) -> h.change(1, number, 1),
                "left of it or above it", 0, 222, 223, 237, 253, 221);
        book.refusedNumbers(Sentences.INDEX, Scene.WITHIN, (h, number) -> h.change(1, number, 1),
                "beyond the map", 256, 270, -1, -2);
        book.refusedSquares(checkedOut(0, 0, 0, 16, 16), (h, number) -> h.change(2, number, 1));
        book.says(25, "Throws `IllegalArgumentException` if there is no such area");
        book.refusedAreasNorNone(Scene.WITHIN, (h, area) -> h.change(0, 17, area));
        book.refusedAreasNorNone(Scene.BETWEEN, (h, area) -> h.change(1, 255, area));
    }

    private void conflicts() {
        book.says(26, "Returns the number of squares of a version that are conflicts now.");
        book.due(1, Scene.WITHIN, h -> h.conflicts(0), "17 is one, 33 and 35 are not");
        book.due(0, Scene.BETWEEN, h -> h.conflicts(0), "ahead of the session");
        book.due(2, Scene.WITHIN, h -> {
            h.change(0, 33, 5);
            return h.conflicts(0);
        }, "by a change of the version");
        book.due(2, Scene.WITHIN, h -> {
            h.paint(0, 2, 3, 2, 1, 1);
            return h.conflicts(0);
        }, "by a change of the layer");
        book.due(0, Scene.WITHIN, h -> {
            h.paint(0, 7, 1, 1, 1, 1);
            return h.conflicts(0);
        }, "as soon as both are alike");
        book.due(1, Scene.WITHIN, h -> {
            h.sign(2);
            h.keep();
            return h.conflicts(0);
        }, "behind a keep");
        book.says(26, "`version`: the number of the version");
        for (int each = 0; each < 9; each++) {
            int version = each / 3;
            int asked = each % 3;
            Scene one = Scene.ALL_RULES_AND_VERSIONS.with(house -> {
                house.begin(0);
                house.paint(version, 6, 5, 5, 1, 1);
                house.change(version, 85, 7);
            });
            book.due(version == asked ? 1 : 0, one, h -> h.conflicts(asked), "" + version);
            book.due(version == asked ? 1 : 0, one, h -> h.clashes(asked), "" + version);
        }
        book.says(26, "Returns the number of squares.");
        Scene all = Scene.NEW.with(house -> {
            house.checkOut(0, 0, 0, 16, 16);
            house.begin(0);
            house.paint(0, 9, 0, 0, 16, 16);
        });
        book.due(0, all, h -> h.conflicts(0), "none");
        book.due(256, all, h -> {
            for (int square = 0; square < 256; square++) {
                h.change(0, square, 0);
            }
            return h.conflicts(0);
        }, "all");
        book.due(1, all.with(h -> h.change(0, 255, 0)), h -> h.conflicts(0), "the last square");
        book.due(1, all.with(h -> h.change(0, 0, 0)), h -> h.conflicts(0), "the first square");
        book.says(26, "Throws `NoSuchElementException` if there is no such version");
        refusedVersions((h, version) -> h.conflicts(version));
    }

    private void refusedVersions(Sentences.NumberCall call) {
        int[] far = {-1, 3, Sentences.LEAST, Sentences.GREATEST};
        book.refusedNumbers(Sentences.NO_ELEMENT, Scene.NEW, call, "of none", 0, 2);
        book.refusedNumbers(Sentences.NO_ELEMENT, Scene.WITHIN, call, "of two", 2);
        book.refusedNumbers(Sentences.NO_ELEMENT, Scene.WITHIN, call, "of two", far);
        book.refusedNumbers(Sentences.NO_ELEMENT, Scene.FULL, call, "of three", far);
    }

    private void clashes() {
        book.says(27, "Returns the number of clashes of a version now.");
        book.due(1, Scene.WITHIN, h -> h.clashes(0), "one conflict");
        book.due(0, Scene.BETWEEN, h -> h.clashes(0), "ahead of the session");
        book.due(1, Scene.WITHIN, h -> {
            h.change(0, 33, 5);
            return h.clashes(0);
        }, "two neighbours, of unlike areas");
        book.due(2, Scene.WITHIN, h -> {
            h.paint(0, 2, 3, 2, 1, 1);
            return h.clashes(0);
        }, "two that are no neighbours");
        book.says(27, "`version`: the number of the version");
        for (int each = 0; each < 3; each++) {
            int version = each;
            Scene some = Scene.ALL_RULES_AND_VERSIONS.with(house -> {
                house.begin(0);
                for (int number = 0; number < 3; number++) {
                    house.paint(number, 6, 0, 0, 16, 16);
                    for (int x = 0; x <= number; x++) {
                        house.change(number, 16 * 5 + 5 + 2 * x, 7);
                    }
                }
            });
            book.due(1 + version, some, h -> h.clashes(version), "version " + version);
        }
        book.says(27, "Returns the number of clashes.");
        Scene all = Scene.NEW.with(house -> {
            house.checkOut(0, 0, 0, 16, 16);
            house.begin(0);
            house.paint(0, 9, 0, 0, 16, 16);
        });
        book.due(0, all, h -> h.clashes(0), "none");
        book.due(128, all, h -> {
            for (int square = 0; square < 256; square++) {
                h.change(0, square, (square % 16 + square / 16) % 2 == 0 ? 0 : -1);
            }
            return h.clashes(0);
        }, "the greatest number");
        book.due(1, all, h -> {
            for (int square = 0; square < 256; square++) {
                h.change(0, square, square % 9);
            }
            return h.clashes(0);
        }, "one of all squares");
        book.due(2, all.with(house -> {
            house.change(0, 15, 0);
            house.change(0, 16, 0);
        }), h -> h.clashes(0), "the ends of two rows");
        book.says(27, "Throws `NoSuchElementException` if there is no such version");
        refusedVersions((h, version) -> h.clashes(version));
    }

    private void reconciles() {
        book.says(28, "Reconciles a version.");
        Scene left = Scene.WITHIN.with(house -> house.reconcile(0, 'l'));
        Scene given = Scene.WITHIN.with(house -> house.reconcile(0, 'v'));
        book.due(6, left, h -> h.areaAt(0, 17), "a conflict with l");
        book.due(7, given, h -> h.areaAt(0, 17), "a conflict with v");
        book.due(-1, left, h -> h.areaAt(0, 35), "changed by the version alone, with l");
        book.due(-1, given, h -> h.areaAt(0, 35), "changed by the version alone, with v");
        book.due(6, given, h -> h.areaAt(0, 33), "changed by the layer alone");
        book.due(15 - 15 / 2, given, h -> h.value(0, 6), "the value of one of two squares goes");
        book.due(15 / 2, given, h -> h.value(0, 7), "to the area that gets it");
        book.due(3, left.with(h -> h.sign(2)), h -> {
            h.keep();
            return h.authorOf(0, 35, 3);
        }, "by the author of the session");
        book.due(9, left, h -> h.areaAt(1, 255), "another version is another matter");
        book.due(1, given.with(h -> h.drop()), h -> h.areaAt(0, 17), "a drop takes it back");
    }

    private void reconcileParameters() {
        book.says(28, "`version`: the number of the version");
        for (int each = 0; each < 9; each++) {
            int version = each / 3;
            int asked = each % 3;
            Scene one = Scene.ALL_RULES_AND_VERSIONS.with(house -> {
                house.change(0, 85, 1);
                house.change(1, 85, 2);
                house.change(2, 85, 3);
                house.begin(0);
                house.reconcile(version, 'v');
            });
            book.due(version == asked ? 1 + asked : -1, one, h -> h.areaAt(asked, 85),
                    "version " + version + ", layer " + asked);
        }
        book.says(28, "`side`: 'v' or 'l'");
        book.due(2, Scene.WITHIN, h -> h.reconcile(0, 'v'), "the side v: 17 and 35");
        book.due(1, Scene.WITHIN, h -> h.reconcile(0, 'l'), "the side l: 35");
    }

    private void reconcileReturns() {
        book.says(28, "Returns the number of squares of the layer that change.");
        Scene all = Scene.NEW.with(house -> {
            house.checkOut(0, 0, 0, 16, 16);
            for (int square = 0; square < 256; square++) {
                house.change(0, square, 8);
            }
            house.begin(0);
        });
        book.due(256, all, h -> h.reconcile(0, 'l'), "all");
        book.due(0, all.with(h -> h.reconcile(0, 'l')), h -> h.reconcile(0, 'v'), "none again");
        book.due(0, all.with(h -> h.paint(0, 8, 0, 0, 16, 16)), h -> h.reconcile(0, 'v'),
                "none, as both changed all alike");
        book.due(256, all.with(h -> h.paint(0, 9, 0, 0, 16, 16)), h -> h.reconcile(0, 'v'),
                "all, as all are conflicts");
        book.due(0, all.with(h -> h.paint(0, 9, 0, 0, 16, 16)), h -> h.reconcile(0, 'l'),
                "none, as all conflicts are left");
        book.due(255, all.with(h -> h.paint(0, 9, 0, 0, 1, 1)), h -> h.reconcile(0, 'l'),
                "all but the first");
        book.due(255, all.with(h -> h.paint(0, 9, 15, 15, 1, 1)), h -> h.reconcile(0, 'l'),
                "all but the last");
        book.due(0, all.with(house -> {
            house.drop();
            house.checkOut(0, 0, 0, 16, 16);
            house.begin(0);
        }), h -> h.reconcile(1, 'v'), "none of a version that is as it was");
    }

    private void reconcileWrong() {
        book.says(28, "Throws `NoSuchElementException` if there is no such version");
        refusedVersions((h, version) -> h.reconcile(version, 'v'));
        book.says(28, "Throws `IllegalArgumentException` if there is no such side");
        book.refusedSigns(Scene.WITHIN, (h, side) -> h.reconcile(0, side), "side", "vl");
        book.refusedNumbers(Sentences.ARGUMENT, Scene.FULL, (h, side) -> h.reconcile(2, (char) side),
                "side", 'V', 'L', 'b', 0);
        book.says(28, "Throws `IllegalStateException` if there is no session");
        Scene[] scenes = {Scene.BETWEEN, Scene.FULL, Scene.WITHIN.with(h -> h.drop())};
        for (Scene scene : scenes) {
            book.refused(Sentences.STATE, scene, h -> h.reconcile(0, 'v'), "no session");
            book.refused(Sentences.STATE, scene, h -> h.reconcile(1, 'l'), "no session");
        }
    }
}
