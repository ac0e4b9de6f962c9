/** What the document says ahead of the promises: squares, edits, sessions, rules and history. */
final class TermSentences {
    private final Sentences book;

    TermSentences(Sentences book) {
        this.book = book;
    }

    void all() {
        calls();
        comeOrAsked();
        piecesAddUp();
        squareNumbers();
        layersAndAreas();
        oneAreaOrNone();
        sizes();
        neighbours();
        firstValues();
        anEdit();
        dividing();
        dividingSeveral();
        copying();
        noSquaresNoValue();
        inSessions();
        sessionEnds();
        timeGrows();
        brokenRules();
        fortySessions();
        sixRules();
        inside();
        notOver();
        along();
        history();
        authors();
    }

    private void calls() {
        book.says(0, "An object is used for at most 512 calls after it has been made; what later "
                + "calls answer is free.");
        book.due(256, Scene.NEW, h -> {
            h.begin(0);
            for (int call = 2; call < 512; call++) {
                h.paint(0, call % 10, 0, 0, 16, 16);
            }
            return h.paint(0, -1, 0, 0, 16, 16);
        }, "the squares that change by the 512th call");
        book.due(16.0, Scene.BEGUN.with(house -> {
            for (int x = 0; x < 16; x++) {
                house.paint(0, x % 2, x, 0, 1, 16);
            }
        }), h -> {
            for (int call = 18; call < 512; call++) {
                h.meanPiece(0, 1);
            }
            return h.meanPiece(0, 1);
        }, "the mean piece of 16 lines as the 512th call");
        book.due(512, Scene.NEW, h -> {
            int sound = 0;
            for (int call = 1; call <= 512; call++) {
                sound += h.isSound() ? 1 : 0;
            }
            return sound;
        }, "isSound as all of 512 calls");
    }

    private void comeOrAsked() {
        book.says(0, "Areas, edits, rules, sessions, versions and names come by calls; pieces, "
                + "values, breaks, conflicts, matches and places are asked.");
        Scene within = Scene.WITHIN;
        book.asks(11, within, h -> h.broken(2), "broken");
        book.asks(2, within, h -> h.leastBroken(), "leastBroken");
        book.asks(6, within, h -> h.areaAt(0, 17), "areaAt");
        book.asks(1, within, h -> h.areaThen(0, 17, 2), "areaThen");
        book.asks(1, within, h -> h.authorOf(0, 17, 2), "authorOf");
        book.asks(11, within, h -> h.size(0, 1), "size");
        book.asks(70, within, h -> h.value(0, 1), "value");
        book.asks(32, within, h -> h.rim(1, 0), "rim");
        book.asks(1, within, h -> h.border(0, 6, 3), "border");
        book.asks(20, within, h -> h.distance(0, 9, 2), "distance");
        book.asks(0, within, h -> h.nearest(1, 9), "nearest");
        book.asks(2, within, h -> h.belt(0, 9, 1), "belt");
        book.asks(1, within, h -> h.conflicts(0), "conflicts");
        book.asks(1, within, h -> h.clashes(0), "clashes");
        book.asks(4, within, h -> h.pieces(1, 2), "pieces");
        book.asks(64, within, h -> h.pieceSize(1, 2, 0), "pieceSize");
        book.asks(5, within, h -> h.parent(1, 2, 1, true), "parent");
        book.asks(2, within, h -> h.match(1, 0, 0), "match");
        book.asks('s', within, h -> h.matchKind(1, 9, 0), "matchKind");
        book.asks(9, within, h -> h.coarse(0, 256, 9), "coarse");
        book.asks(2, within, h -> h.coarseAreas(0, 256), "coarseAreas");
        book.asks(48, within, h -> h.placeOf(1, 0), "placeOf");
        book.asks(7L, within, h -> h.values(1), "values");
        book.asks(65f / 256f, within, h -> h.covered(1), "covered");
        book.asks(20.0, within, h -> h.meanPiece(1, 2), "meanPiece");
        book.asks(true, within, h -> h.isSound(), "isSound");
        for (Scene scene : new Scene[] {Scene.BETWEEN, within, Scene.LAST_WITHIN, Scene.FULL}) {
            book.due(askAll(scene.house()), scene.with(h -> askAll(h)), h -> askAll(h),
                    "all, asked again");
        }
        Scene edit = house -> {
            house.paint(0, -1, 3, 0, 3, 3);
            house.paint(0, 4, 9, 1, 6, 2);
            house.paint(0, 3, 1, 4, 9, 1);
            house.paint(1, 2, 2, 2, 12, 3);
            house.change(0, 33, 5);
        };
        Scene begun = Scene.BETWEEN.with(house -> house.begin(0));
        for (Scene scene : new Scene[] {begun, within, Scene.LAST_WITHIN}) {
            book.due(askAll(scene.with(edit).house()), scene.with(h -> askAll(h)).with(edit),
                    h -> askAll(h), "all, asked ahead of an edit and behind it");
        }
    }

    private static String askAll(Overlayer house) {
        StringBuilder answers = new StringBuilder();
        Sentences.Call[] calls = {h -> h.broken(2), h -> h.leastBroken(), h -> h.conflicts(0),
            h -> h.clashes(0), h -> h.isSound(), h -> h.placeOf(1, 0), h -> h.placeOf(0, 2)};
        for (Sentences.Call call : calls) {
            answers.append(Sentences.answer(house, call)).append(' ');
        }
        for (int each = 0; each < 9; each++) {
            int layer = each / 3;
            int next = (layer + 1) % 3;
            int area = new int[] {1, 2, 3, 0, 2, 9, 5, 0, 1}[each];
            Sentences.Call[] more = {h -> h.pieceSize(layer, next, 1), h -> h.pieces(next, layer),
                h -> h.parent(layer, next, 1, true), h -> h.meanPiece(layer, next),
                h -> h.coarse(layer, 15, area), h -> h.coarseAreas(layer, 256),
                h -> h.placeOf(layer, area), h -> h.nearest(layer, area),
                h -> h.belt(layer, area, 3), h -> h.distance(layer, area, 9 - area),
                h -> h.match(layer, area, next), h -> h.matchKind(layer, area, next),
                h -> h.rim(layer, area), h -> h.border(layer, area, 9 - area)};
            for (Sentences.Call call : more) {
                answers.append(Sentences.answer(house, call)).append(' ');
            }
        }
        return answers.toString();
    }

    private void piecesAddUp() {
        book.says(0, "Sizes of pieces add up to those of their parents.");
        for (int area = 0; area < 10; area++) {
            int asked = area;
            book.due(0, Scene.NEW, h -> sumOfPieces(h, 0, 1, asked, false), "no pieces");
            for (int layers = 0; layers < 6; layers++) {
                int first = layers / 2;
                int second = (first + 1 + layers % 2) % 3;
                int firstSize = Scene.WITHIN.house().size(first, area);
                int secondSize = Scene.WITHIN.house().size(second, area);
                String what = "area " + area + " of the layers " + first + " and " + second;
                book.due(firstSize, Scene.WITHIN,
                        h -> sumOfPieces(h, first, second, asked, false), what + ", first");
                book.due(secondSize, Scene.WITHIN,
                        h -> sumOfPieces(h, first, second, asked, true), what + ", second");
            }
        }
    }

    private static int sumOfPieces(Overlayer h, int first, int second, int area, boolean isSecond) {
        int sum = 0;
        int pieces = h.pieces(first, second);
        for (int piece = 0; piece < pieces; piece++) {
            boolean isOf = h.parent(first, second, piece, isSecond) == area;
            sum += isOf ? h.pieceSize(first, second, piece) : 0;
        }
        return sum;
    }

    private void squareNumbers() {
        book.says(0, "There are the squares with x and y from 0 to 15; the number of a square is 16 "
                + "times y plus x.");
        int[][] corners = {{0, 0, 0}, {15, 0, 15}, {0, 1, 16}, {15, 14, 239}, {0, 15, 240},
            {15, 15, 255}, {3, 2, 35}, {2, 3, 50}};
        for (int[] each : corners) {
            book.due("" + each[2], Scene.BEGUN, h -> {
                h.paint(1, 4, each[0], each[1], 1, 1);
                return Sentences.squares(h, 1, 4);
            }, "the number of x " + each[0] + ", y " + each[1]);
        }
        book.due(256, Scene.BEGUN, h -> h.paint(0, 4, 0, 0, 16, 16), "all squares");
        book.refusedNumbers(Sentences.ARGUMENT, Scene.BEGUN,
                (h, x) -> h.paint(0, 4, x, 0, 1, 1), "no square with x", -1, 16);
        book.refusedNumbers(Sentences.ARGUMENT, Scene.BEGUN,
                (h, y) -> h.paint(0, 4, 0, y, 1, 1), "no square with y", -1, 16);
    }

    private void layersAndAreas() {
        book.says(0, "There are the layers 0 to 2, each with the areas 0 to 9.");
        for (int each = 0; each < 30; each++) {
            int layer = each / 10;
            int area = each % 10;
            book.due(2, Scene.BEGUN, h -> {
                h.paint(layer, area, 5, 5, 2, 1);
                return h.size(layer, area);
            }, "the size of area " + area + " of layer " + layer);
        }
        book.refusedLayers(Scene.BEGUN, (h, layer) -> h.paint(layer, 0, 5, 5, 2, 1));
        book.refusedAreasNorNone(Scene.BEGUN, (h, area) -> h.paint(2, area, 5, 5, 2, 1));
    }

    private void oneAreaOrNone() {
        book.says(0, "In a layer, each square belongs to one area, or to none, as all do at first.");
        for (int each = 0; each < 3; each++) {
            int layer = each;
            book.due(256, Scene.NEW, h -> {
                int none = 0;
                for (int square = 0; square < 256; square++) {
                    none += h.areaAt(layer, square) == -1 ? 1 : 0;
                }
                return none;
            }, "squares of layer " + layer + " that belong to none at first");
            Scene twoAreas = Scene.BEGUN.with(house -> {
                house.paint(layer, 0, 0, 0, 4, 4);
                house.paint(layer, 9, 2, 2, 4, 4);
            });
            book.due(9, twoAreas, h -> h.areaAt(layer, 34), "a square that both were given");
            book.due(0, twoAreas, h -> h.areaAt(layer, 33), "a square that the first one keeps");
            book.due(12 + 16, twoAreas, h -> h.size(layer, 0) + h.size(layer, 9),
                    "no square belongs to two areas");
            book.due(-1, twoAreas, h -> {
                h.paint(layer, -1, 2, 2, 1, 1);
                return h.areaAt(layer, 34);
            }, "a square that is given to none again");
            book.due(-1, twoAreas, h -> h.areaAt((layer + 1) % 3, 34), "the next layer");
        }
    }

    private void sizes() {
        book.says(0, "The size of an area is the number of its squares.");
        book.due(0, Scene.BEGUN, h -> h.size(0, 3), "without squares");
        book.due(1, Scene.WITHIN, h -> h.size(0, 9), "one square");
        book.due(256, Scene.BEGUN, h -> {
            h.paint(0, 3, 0, 0, 16, 16);
            return h.size(0, 3);
        }, "all squares");
        book.due(2, Scene.BEGUN, h -> {
            h.paint(0, 3, 0, 0, 1, 1);
            h.paint(0, 3, 15, 15, 1, 1);
            return h.size(0, 3);
        }, "squares that lie apart");
    }

    private void neighbours() {
        book.says(0, "Two squares are neighbours if they differ by 1 in x alone, or in y alone.");
        int[][] pairs = {{0, 1, 1}, {0, 16, 1}, {254, 255, 1}, {239, 255, 1}, {100, 101, 1},
            {100, 116, 1}, {14, 15, 1}, {224, 240, 1},
            {0, 17, 0}, {1, 16, 0}, {0, 2, 0}, {0, 32, 0}, {100, 117, 0}, {100, 115, 0},
            {15, 16, 0}, {31, 32, 0}, {239, 240, 0}, {0, 15, 0}, {0, 240, 0}, {15, 255, 0},
            {0, 255, 0}, {15, 240, 0}, {15, 32, 0}};
        for (int[] each : pairs) {
            Scene two = Scene.BEGUN.with(house -> {
                house.paint(0, 1, each[0] % 16, each[0] / 16, 1, 1);
                house.paint(0, 2, each[1] % 16, each[1] / 16, 1, 1);
                house.paint(1, 5, each[0] % 16, each[0] / 16, 1, 1);
                house.paint(1, 5, each[1] % 16, each[1] / 16, 1, 1);
            });
            String what = " of the squares " + each[0] + " and " + each[1];
            book.due(each[2], two, h -> h.border(0, 1, 2), "border" + what);
            book.due(each[2], two, h -> h.border(0, 2, 1), "border, the other way," + what);
            book.due(8 - 2 * each[2], two, h -> h.rim(1, 5), "rim" + what);
            book.due(2 - each[2], two, h -> h.pieces(1, 2), "pieces" + what);
            book.due(each[2] == 1, two, h -> h.distance(0, 1, 2) == 1, "distance" + what);
            book.due(2 - each[2], two, h -> h.coarseAreas(0, 2), "coarser map" + what);
            book.due(each[2] == 0, two, h -> {
                h.name(0, 1, 1);
                h.name(0, 2, 1);
                return Sentences.answer(h, house -> house.placeOf(0, 2)) instanceof Integer;
            }, "names" + what);
        }
    }

    private void firstValues() {
        book.says(0, "Each area has a value, 0 at first.");
        for (int each = 0; each < 30; each++) {
            int layer = each / 10;
            int area = each % 10;
            book.due(0, Scene.NEW, h -> h.value(layer, area), "the value of a new area");
            book.due(0, Scene.BEGUN, h -> {
                h.paint(layer, area, 0, 0, 16, 16);
                return h.value(layer, area);
            }, "the value of an area with its first squares");
        }
    }

    private void anEdit() {
        book.says(0, "An edit gives squares of a layer to an area, or to none.");
        book.due("17 18 33 34", Scene.BEGUN, h -> {
            h.paint(1, 0, 1, 1, 2, 2);
            return Sentences.squares(h, 1, 0);
        }, "to the area 0");
        book.due("17 34", Scene.BEGUN, h -> {
            h.paint(1, 0, 1, 1, 2, 2);
            h.paint(1, -1, 2, 1, 1, 1);
            h.paint(1, 9, 1, 2, 1, 1);
            return Sentences.squares(h, 1, 0);
        }, "one of them to none, and one to area 9");
        book.due("", Scene.BEGUN, h -> {
            h.paint(1, 9, 0, 0, 16, 16);
            h.paint(1, -1, 0, 0, 16, 16);
            return Sentences.squares(h, 1, 9);
        }, "all of them to none");
        book.due(0, Scene.BEGUN, h -> {
            h.paint(1, 0, 0, 0, 16, 16);
            return h.size(0, 0) + h.size(2, 0);
        }, "the layers beside it");
    }

    private void dividing() {
        book.says(0, "In a layer that divides, as all do at first, for each other area that loses "
                + "squares by it, by rising numbers, with v as its value, s as its size ahead of "
                + "the edit and n as the number of squares that it loses, v times n divided by s, "
                + "rounded down, is taken from its value, and added to that of the area that gets "
                + "the squares, if there is one.");
        for (int layer = 0; layer < 3; layer++) {
            // Size, value, squares lost, and what is due to be taken.
            shares(layer, 3, 10, 1, 3);
            shares(layer, 3, 10, 2, 6);
            shares(layer, 3, 10, 3, 10);
            shares(layer, 3, 2, 1, 0);
            shares(layer, 3, 3, 1, 1);
            shares(layer, 3, 0, 2, 0);
            shares(layer, 1, 1, 1, 1);
            shares(layer, 16, 15, 1, 0);
            shares(layer, 16, 16, 1, 1);
            shares(layer, 16, 9999, 15, 9374);
            shares(layer, 16, 9999, 16, 9999);
        }
        Scene ownSquares = Scene.BEGUN.with(house -> {
            house.paint(0, 1, 0, 0, 4, 1);
            house.setValue(0, 1, 11);
            house.paint(0, 1, 0, 0, 6, 1);
        });
        book.due(11, ownSquares, h -> h.value(0, 1), "an area loses nothing to itself");
        Scene great = Scene.BEGUN.with(house -> {
            for (int round = 0; round < 120; round++) {
                house.paint(0, 1, round % 16, round / 16, 1, 1);
                house.setValue(0, 1, 9999);
                house.merge(0, 1, 0);
            }
            house.paint(0, 0, 0, 0, 16, 16);
            house.paint(0, 5, 0, 0, 16, 15);
        });
        book.due(1124887, great, h -> h.value(0, 5), "120 times 9999, times 240, by 256");
        book.due(74993, great, h -> h.value(0, 0), "what is left of it");
    }

    /** A row of the layer that loses some of its squares to another area, and to none. */
    private void shares(int layer, int size, int value, int lost, int taken) {
        Scene row = Scene.BEGUN.with(house -> {
            house.paint(layer, 3, 0, 7, size, 1);
            house.setValue(layer, 3, value);
            house.paint(layer, 8, 0, 9, 1, 1);
            house.setValue(layer, 8, 1000);
        });
        String what = " if " + value + " at " + size + " squares loses " + lost;
        Scene toArea = row.with(house -> house.paint(layer, 8, 0, 7, lost, 1));
        book.due(value - taken, toArea, h -> h.value(layer, 3), "what is left" + what);
        book.due(1000 + taken, toArea, h -> h.value(layer, 8), "what is added" + what);
        Scene toNone = row.with(house -> house.paint(layer, -1, 0, 7, lost, 1));
        book.due(value - taken, toNone, h -> h.value(layer, 3), "what none leaves" + what);
        book.due(1000L + value - taken, toNone, h -> h.values(layer), "none gets nothing" + what);
    }

    private void dividingSeveral() {
        Scene several = Scene.BEGUN.with(house -> {
            for (int area = 0; area < 10; area++) {
                house.paint(0, area, 0, area, 3, 1);
                house.setValue(0, area, 100 + area);
            }
            house.paint(0, 5, 0, 0, 2, 10);
        });
        for (int each = 0; each < 10; each++) {
            int area = each;
            // 100 to 109, times 2, divided by 3: 66, 67, 68, 68, 69, -, 70, 71, 72, 72.
            int due = area == 5 ? 105 + 66 + 67 + 68 + 68 + 69 + 70 + 71 + 72 + 72
                    : 100 + area - (100 + area) * 2 / 3;
            book.due(due, several, h -> h.value(0, area), "area " + area + " of ten in one edit");
        }
        book.due(1045L, several, h -> h.values(0), "the sum of ten in one edit");
        Scene toNone = several.with(house -> house.paint(0, -1, 0, 0, 16, 16));
        book.due(0L, toNone, h -> h.values(0), "all areas lose all to none");
    }

    private void copying() {
        book.says(0, "In a layer that copies, nothing is taken or added.");
        Scene copies = Scene.BEGUN.with(house -> {
            house.setDivides(1, false);
            house.paint(1, 3, 0, 0, 4, 1);
            house.setValue(1, 3, 40);
            house.paint(1, 4, 0, 1, 4, 1);
            house.setValue(1, 4, 5);
        });
        Scene part = copies.with(house -> house.paint(1, 4, 0, 0, 3, 1));
        book.due(40, part, h -> h.value(1, 3), "nothing is taken");
        book.due(5, part, h -> h.value(1, 4), "nothing is added");
        Scene none = copies.with(house -> house.paint(1, -1, 0, 0, 3, 1));
        book.due(40, none, h -> h.value(1, 3), "nothing is taken by none");
        Scene split = copies.with(house -> house.split(1, 3, 6, 'x', 1));
        book.due(40, split, h -> h.value(1, 3), "nothing is taken by a split");
        book.due(0, split, h -> h.value(1, 6), "nothing is added by a split");
        Scene merge = copies.with(house -> house.merge(1, 3, 4));
        book.due(5, merge, h -> h.value(1, 4), "nothing is added by a merge");
    }

    private void noSquaresNoValue() {
        book.says(0, "An area that has no squares left behind an edit has the value 0.");
        for (int each = 0; each < 2; each++) {
            boolean divides = each == 0;
            String what = divides ? " in a layer that divides" : " in a layer that copies";
            Scene valued = Scene.BEGUN.with(house -> {
                house.setDivides(2, divides);
                house.paint(2, 0, 0, 0, 2, 1);
                house.setValue(2, 0, 77);
                house.paint(2, 9, 0, 15, 2, 1);
                house.setValue(2, 9, 99);
            });
            int left = divides ? 39 : 77;
            book.due(left, valued.with(h -> h.paint(2, -1, 0, 0, 1, 1)), h -> h.value(2, 0),
                    "one square is left" + what);
            book.due(0, valued.with(h -> h.paint(2, -1, 0, 0, 2, 1)), h -> h.value(2, 0),
                    "none is left by a paint" + what);
            book.due(0, valued.with(h -> h.paint(2, 9, 0, 0, 2, 1)), h -> h.value(2, 0),
                    "another area has them by a paint" + what);
            book.due(0, valued.with(h -> h.split(2, 9, 4, 'y', 15)), h -> h.value(2, 9),
                    "none is left by a split" + what);
            book.due(0, valued.with(h -> h.merge(2, 9, 0)), h -> h.value(2, 9),
                    "none is left by a merge" + what);
            book.due(0, valued.with(h -> {
                h.merge(2, 9, 0);
                h.paint(2, 9, 5, 5, 1, 1);
            }), h -> h.value(2, 9), "new squares bring no old value back" + what);
            book.due(0L, valued.with(h -> h.paint(2, -1, 0, 0, 16, 16)), h -> h.values(2),
                    "no area is left" + what);
            book.due(0, valued.with(house -> {
                house.keep();
                house.checkOut(2, 0, 0, 2, 1);
                house.change(0, 0, -1);
                house.change(0, 1, -1);
                house.begin(0);
                house.reconcile(0, 'v');
            }), h -> h.value(2, 0), "none is left by reconciling" + what);
        }
    }

    private void inSessions() {
        book.says(0, "Edits are made in a session, by an author from 0 to 5.");
        for (int author = 0; author <= 5; author++) {
            int by = author;
            book.due(by, Scene.NEW, h -> {
                h.begin(by);
                h.paint(0, 1, 0, 0, 1, 1);
                return h.authorOf(0, 0, h.keep());
            }, "an edit by the author " + by);
        }
        book.refusedNumbers(Sentences.ARGUMENT, Scene.BETWEEN, (h, author) -> h.begin(author),
                "the author", -1, 6);
        Scene between = Scene.BETWEEN;
        book.refused(Sentences.STATE, between, h -> h.paint(0, 1, 0, 0, 1, 1), "paint");
        book.refused(Sentences.STATE, between, h -> h.split(0, 1, 5, 'x', 1), "split");
        book.refused(Sentences.STATE, between, h -> h.merge(0, 1, 2), "merge");
        book.refused(Sentences.STATE, between, h -> h.setValue(0, 1, 1), "setValue");
        book.refused(Sentences.STATE, between, h -> h.reconcile(0, 'v'), "reconcile");
    }

    private void sessionEnds() {
        book.says(0, "A session ends by being kept, or by being dropped: then squares and values are "
                + "as they were when it began; versions stay with what they are based on now, and "
                + "so do names, and whether layers divide.");
        book.due(6, Scene.WITHIN, h -> {
            h.sign(2);
            h.keep();
            return h.areaAt(0, 17);
        }, "a square behind a keep");
        book.due(15, Scene.WITHIN, h -> {
            h.sign(2);
            h.keep();
            return h.value(0, 6);
        }, "a value behind a keep");
        Scene dropped = Scene.WITHIN.with(house -> house.drop());
        for (int each = 0; each < 3; each++) {
            int layer = each;
            for (int area = -1; area < 10; area++) {
                int asked = area;
                book.due(Sentences.squares(Scene.BETWEEN.house(), layer, area), dropped,
                        h -> Sentences.squares(h, layer, asked), "squares behind a drop");
            }
            for (int area = 0; area < 10; area++) {
                int asked = area;
                Overlayer before = Scene.BETWEEN.house();
                book.due(before.value(layer, area), dropped, h -> h.value(layer, asked),
                        "a value behind a drop");
                book.due(before.size(layer, area), dropped, h -> h.size(layer, asked),
                        "a size behind a drop");
            }
        }
        book.due(false, dropped, h -> h.setDivides(1, true), "layer 1 copies behind a drop");
        book.due(5, Scene.WITHIN, h -> {
            h.name(0, 6, 5);
            h.drop();
            return h.name(0, 6, 0);
        }, "a name behind a drop");
        book.due(4, Scene.WITHIN, h -> {
            h.change(0, 51, 4);
            h.drop();
            return h.change(0, 51, 0);
        }, "a version's square behind a drop");
        // Based on the dropped 6 of the square 17, it is changed by the layer as soon as it is back.
        book.due(1, Scene.WITHIN, h -> {
            h.reconcile(0, 'l');
            h.drop();
            h.change(0, 17, 5);
            return h.conflicts(0);
        }, "what a version is based on behind a drop");
        book.due(0, Scene.WITHIN, h -> {
            h.drop();
            return h.conflicts(0);
        }, "conflicts behind a drop of what the layer changed");
    }

    private void timeGrows() {
        book.says(0, "When it is kept, the time becomes 1 greater; it is 0 at first.");
        book.due(0, Scene.NEW, h -> h.begin(0), "the time at first");
        book.due(1, Scene.BEGUN, h -> h.keep(), "the time behind the first keep");
        book.due(1, Scene.BEGUN, h -> {
            h.keep();
            return h.begin(0);
        }, "the time in the second session");
        book.due(40, Scene.LAST_WITHIN, h -> h.keep(), "the time behind the last keep");
        book.due(2, Scene.WITHIN, h -> {
            h.drop();
            return h.begin(0);
        }, "the time behind a drop");
    }

    private void brokenRules() {
        book.says(0, "A session cannot be kept as long as a rule is broken that is not signed in "
                + "it.");
        book.refused(Sentences.UNSUPPORTED, Scene.WITHIN, h -> h.keep(), "rule 2 is broken");
        book.due(3, Scene.WITHIN, h -> {
            h.sign(2);
            return h.keep();
        }, "rule 2 is broken and signed");
        book.due(3, Scene.WITHIN, h -> {
            h.paint(1, -1, 0, 0, 16, 16);
            h.paint(0, -1, 0, 0, 16, 16);
            return h.keep();
        }, "no rule is broken any more");
        Scene kept = Scene.WITHIN.with(house -> {
            house.sign(2);
            house.keep();
            house.begin(0);
        });
        book.refused(Sentences.UNSUPPORTED, kept, h -> h.keep(), "rule 2 was signed before");
        Scene dropped = Scene.WITHIN.with(house -> {
            house.sign(2);
            house.drop();
            house.begin(0);
        });
        book.refused(Sentences.UNSUPPORTED, dropped, h -> h.keep(), "rule 2 was signed and dropped");
    }

    private void fortySessions() {
        book.says(0, "At most 40 sessions are kept.");
        book.due(39, Scene.ONE_LEFT, h -> h.begin(0), "the time in the 40th session");
        book.due(40, Scene.LAST_WITHIN, h -> h.keep(), "the 40th keep");
        book.refused(Sentences.STATE, Scene.FULL, h -> h.begin(0), "a 41st session");
        book.due(39, Scene.LAST_WITHIN, h -> {
            h.drop();
            h.begin(1);
            h.drop();
            return h.begin(5);
        }, "dropped sessions do not count");
        book.due(0, Scene.NEW, h -> {
            for (int session = 0; session < 41; session++) {
                h.begin(0);
                h.drop();
            }
            return h.begin(0);
        }, "41 dropped sessions");
    }

    private void sixRules() {
        book.says(0, "At most 6 rules are there, numbered from 0, each between a first and a second "
                + "layer.");
        for (int rule = 0; rule < 6; rule++) {
            int number = rule;
            book.due(number, Scene.NEW, h -> {
                for (int each = 0; each < number; each++) {
                    h.addRule('i', 0, 1);
                }
                return h.addRule('i', 0, 1);
            }, "the number of rule " + number);
        }
        book.refused(Sentences.STATE, Scene.FULL, h -> h.addRule('i', 0, 1), "a seventh rule");
        for (int layers = 0; layers < 6; layers++) {
            int first = layers / 2;
            int second = (first + 1 + layers % 2) % 3;
            book.due(3, Scene.NEW, h -> {
                h.addRule('i', first, second);
                h.begin(0);
                h.paint(first, 0, 0, 0, 4, 1);
                h.paint(second, 0, 3, 0, 6, 1);
                return h.broken(0);
            }, "between the layers " + first + " and " + second);
        }
    }

    private static Scene rule(char kind) {
        return house -> {
            house.addRule(kind, 0, 1);
            house.begin(0);
        };
    }

    private void inside() {
        book.says(0, "'i', inside: it is broken at each square that belongs to an area in the first "
                + "layer and to none in the second one.");
        Scene rule = rule('i');
        book.due(0, rule, h -> h.broken(0), "no areas");
        book.due(256, rule, h -> {
            h.paint(0, 0, 0, 0, 16, 16);
            return h.broken(0);
        }, "at all squares");
        book.due(0, rule, h -> {
            h.paint(1, 0, 0, 0, 16, 16);
            return h.broken(0);
        }, "an area in the second layer alone");
        book.due(0, rule, h -> {
            h.paint(0, 0, 0, 0, 16, 16);
            h.paint(1, 9, 0, 0, 16, 16);
            return h.broken(0);
        }, "an area in both");
        book.due(2, rule, h -> {
            h.paint(0, 9, 0, 0, 16, 16);
            h.paint(1, 0, 0, 0, 16, 16);
            h.paint(1, -1, 0, 0, 1, 1);
            h.paint(1, -1, 15, 15, 1, 1);
            return h.broken(0);
        }, "at the first and the last square");
    }

    private void notOver() {
        book.says(0, "'n', not over: at each square that belongs to an area in both.");
        Scene rule = rule('n');
        book.due(0, rule, h -> h.broken(0), "no areas");
        book.due(256, rule, h -> {
            h.paint(0, 0, 0, 0, 16, 16);
            h.paint(1, 0, 0, 0, 16, 16);
            return h.broken(0);
        }, "at all squares");
        book.due(0, rule, h -> {
            h.paint(0, 9, 0, 0, 16, 16);
            return h.broken(0);
        }, "an area in the first alone");
        book.due(0, rule, h -> {
            h.paint(1, 9, 0, 0, 16, 16);
            return h.broken(0);
        }, "an area in the second alone");
        book.due(2, rule, h -> {
            h.paint(0, 9, 0, 0, 16, 16);
            h.paint(1, 0, 0, 0, 1, 1);
            h.paint(1, 9, 15, 15, 1, 1);
            return h.broken(0);
        }, "at the first and the last square");
    }

    private void along() {
        book.says(0, "'a', along: at each two squares that are neighbours, and belong to different "
                + "areas, or one of them to none, in the first layer, and to the same area, or both "
                + "to none, in the second one.");
        Scene rule = rule('a');
        book.due(0, rule, h -> h.broken(0), "both to none in the first layer");
        // The areas of two squares in the first layer, those in the second one, and the breaks.
        int[][] cases = {{0, 0, -1, -1, 0}, {0, 9, -1, -1, 1}, {0, -1, -1, -1, 1}, {-1, 9, -1, -1, 1},
            {0, 9, 4, 4, 1}, {0, 9, 0, 0, 1}, {-1, 9, 9, 9, 1}, {0, 9, 4, 5, 0}, {0, 9, 4, -1, 0},
            {0, 9, -1, 4, 0}, {0, -1, 0, -1, 0}, {0, 0, 4, 5, 0}, {-1, -1, 4, 4, 0}};
        for (int[] each : cases) {
            String what = "areas " + each[0] + " and " + each[1] + ", over " + each[2] + " and "
                    + each[3];
            book.due(each[4], rule, h -> brokenBy(h, each, 17, 18), what + ", along x");
            book.due(each[4], rule, h -> brokenBy(h, each, 17, 33), what + ", along y");
            book.due(each[4], rule, h -> brokenBy(h, each, 0, 1), what + ", at the first square");
            book.due(each[4], rule, h -> brokenBy(h, each, 239, 255), what + ", at the last one");
            book.due(0, rule, h -> brokenBy(h, each, 17, 34), what + ", at a corner");
            book.due(0, rule, h -> brokenBy(h, each, 15, 16), what + ", at the ends of rows");
            book.due(0, rule, h -> brokenBy(h, each, 0, 240), what + ", at the ends of a column");
        }
        book.due(480, rule, h -> {
            for (int line = 0; line < 16; line++) {
                h.paint(0, line % 2, 0, line, 16, 1);
            }
            int between = h.broken(0);
            for (int square = 0; square < 128; square++) {
                h.paint(0, 2, 2 * (square % 8) + square / 8 % 2, square / 8, 1, 1);
            }
            return between == 240 ? h.broken(0) : between;
        }, "at all pairs: 240 along y, then 240 along x too");
    }

    /** Two squares of an else empty layer, over a second one that has the area 6 around them. */
    private static Object brokenBy(Overlayer h, int[] areas, int one, int two) {
        h.paint(1, 6, 0, 0, 16, 16);
        h.paint(0, areas[0], one % 16, one / 16, 1, 1);
        h.paint(0, areas[1], two % 16, two / 16, 1, 1);
        h.paint(1, areas[2], one % 16, one / 16, 1, 1);
        h.paint(1, areas[3], two % 16, two / 16, 1, 1);
        return h.broken(0);
    }

    private void history() {
        book.says(0, "By a time, the squares of a layer belong to the areas to which they belonged "
                + "when the session was kept that led to this time, whatever is edited now; by the "
                + "time 0, to none.");
        int[][] cases = {{0, 17, 0, -1}, {0, 17, 1, 1}, {0, 17, 2, 1}, {0, 0, 1, 1}, {0, 0, 2, -1},
            {0, 34, 1, 1}, {0, 34, 2, 3}, {0, 255, 0, -1}, {0, 255, 1, 9}, {1, 0, 1, 0},
            {1, 255, 2, 9}, {2, 131, 0, -1}, {2, 131, 1, 5}, {2, 131, 2, 5}, {2, 255, 2, -1}};
        for (int[] each : cases) {
            String what = "square " + each[1] + " of layer " + each[0] + " by the time " + each[2];
            book.due(each[3], Scene.BETWEEN, h -> h.areaThen(each[0], each[1], each[2]), what);
            book.due(each[3], Scene.WITHIN, h -> h.areaThen(each[0], each[1], each[2]),
                    what + ", whatever is edited now");
            book.due(each[3], Scene.WITHIN, h -> {
                h.drop();
                return h.areaThen(each[0], each[1], each[2]);
            }, what + ", behind a drop");
        }
        book.due(6, Scene.WITHIN, h -> {
            h.sign(2);
            h.keep();
            return h.areaThen(0, 17, 3);
        }, "what was edited, by the time that it was kept");
        book.due(8, Scene.LAST_WITHIN, h -> {
            h.keep();
            return h.areaThen(0, 17, 40);
        }, "by the last time");
        book.due(-1, Scene.LAST_WITHIN, h -> {
            h.keep();
            return h.areaThen(0, 17, 39);
        }, "by the time ahead of it");
    }

    private void authors() {
        book.says(0, "The author of a square at a time is that of the last session up to this time "
                + "behind which it belonged to another area than ahead of it, or to none instead, or "
                + "the other way round.");
        int[][] cases = {{0, 17, 1, 1}, {0, 17, 2, 1}, {0, 34, 1, 1}, {0, 34, 2, 4}, {0, 0, 1, 1},
            {0, 0, 2, 4}, {2, 131, 2, 1}, {0, 255, 2, 1}};
        for (int[] each : cases) {
            String what = "square " + each[1] + " of layer " + each[0] + " at the time " + each[2];
            book.due(each[3], Scene.BETWEEN, h -> h.authorOf(each[0], each[1], each[2]), what);
            book.due(each[3], Scene.WITHIN, h -> h.authorOf(each[0], each[1], each[2]),
                    what + ", in a session by another author");
        }
        book.due(1, Scene.BETWEEN, h -> {
            h.begin(5);
            h.paint(0, 8, 1, 1, 1, 1);
            h.paint(0, 1, 1, 1, 1, 1);
            h.sign(2);
            return h.authorOf(0, 17, h.keep());
        }, "another area in the session, but the same behind it");
        book.due(1, Scene.BETWEEN, h -> {
            h.begin(5);
            h.paint(0, 8, 1, 1, 1, 1);
            h.drop();
            h.begin(4);
            h.sign(2);
            return h.authorOf(0, 17, h.keep());
        }, "a session that was dropped");
        book.due(5, Scene.BETWEEN, h -> {
            h.begin(5);
            h.paint(0, -1, 1, 1, 1, 1);
            h.sign(2);
            h.keep();
            return h.authorOf(0, 17, 3);
        }, "to none instead");
        book.due(0, Scene.BETWEEN, h -> {
            h.begin(0);
            h.paint(0, 0, 0, 0, 1, 1);
            h.paint(1, 0, 0, 0, 1, 1);
            h.sign(2);
            h.keep();
            return h.authorOf(0, 0, 3);
        }, "to an area instead of none, by the author 0");
        book.due(2, Scene.LAST_WITHIN, h -> {
            h.keep();
            return h.authorOf(0, 33, 40);
        }, "at the last time");
        book.due(0, Scene.FULL, h -> h.authorOf(0, 0, 40), "of the first session at the last time");
    }
}
