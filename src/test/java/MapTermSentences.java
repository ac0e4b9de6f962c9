/** What the document says ahead of the promises: versions, overlays, maps, names and matches. */
final class MapTermSentences {
    private final Sentences book;

    MapTermSentences(Sentences book) {
        this.book = book;
    }

    void all() {
        checkedOut();
        threeVersions();
        givenInVersions();
        changedByWhom();
        versionAlone();
        conflictsAndClashes();
        sides();
        oneByOne();
        baseThen();
        pieces();
        pieceNumbers();
        bordersAndRims();
        distances();
        belts();
        coarserMap();
        coarserTies();
        coarserSums();
        nameLengths();
        nameOrder();
        nameMiddle();
        namePlaces();
        nameFree();
        namesNotPlaced();
        commonSizes();
        bestMatch();
        sureMatch();
    }

    private void checkedOut() {
        book.says(0, "A version is checked out, outside of sessions, for a layer and a box of "
                + "squares; it keeps those as they are now, its base.");
        book.refused(Sentences.STATE, Scene.BEGUN, h -> h.checkOut(0, 0, 0, 1, 1), "in a session");
        book.due(0, Scene.BEGUN, h -> {
            h.keep();
            return h.checkOut(0, 0, 0, 1, 1);
        }, "as soon as the session is kept");
        book.due(0, Scene.BEGUN, h -> {
            h.drop();
            return h.checkOut(0, 0, 0, 1, 1);
        }, "as soon as the session is dropped");
        Scene third = Scene.BETWEEN.with(house -> house.checkOut(0, 2, 1, 3, 2));
        int[] box = {18, 19, 20, 34, 35, 36};
        int[] areas = {1, 1, 2, 3, 3, 3};
        for (int each = 0; each < 6; each++) {
            int square = box[each];
            book.due(areas[each], third, h -> h.change(2, square, 0), "it keeps " + square);
            book.due(areas[each], third, h -> {
                h.begin(0);
                h.paint(0, 8, 0, 0, 16, 16);
                return h.change(2, square, 0);
            }, "it keeps " + square + ", whatever is edited then");
        }
        book.refusedNumbers(Sentences.INDEX, third, (h, square) -> h.change(2, square, 0),
                "not in the box", 1, 2, 3, 4, 5, 17, 21, 33, 37, 49, 50, 51, 52, 53);
    }

    private void threeVersions() {
        book.says(0, "At most 3 versions are there, numbered from 0.");
        Scene checked = Scene.NEW;
        for (int each = 0; each < 3; each++) {
            book.refusedNumbers(Sentences.NO_ELEMENT, checked, (h, number) -> h.conflicts(number),
                    "not there yet", each);
            book.due(each, checked, h -> h.checkOut(0, 0, 0, 1, 1), "the number of a version");
            checked = checked.with(house -> house.checkOut(0, 0, 0, 1, 1));
        }
        book.refused(Sentences.STATE, checked, h -> h.checkOut(0, 0, 0, 1, 1), "a fourth one");
        book.refused(Sentences.STATE, Scene.FULL, h -> h.checkOut(2, 5, 5, 1, 1), "a fourth one");
        book.refused(Sentences.STATE, checked.with(house -> {
            house.begin(0);
            house.reconcile(0, 'v');
            house.keep();
        }), h -> h.checkOut(0, 0, 0, 1, 1), "a fourth one, though one was reconciled");
    }

    private void givenInVersions() {
        book.says(0, "In a version, squares of its box are given to areas, without values.");
        Scene given = Scene.BETWEEN.with(house -> {
            for (int x = 0; x < 6; x++) {
                house.change(0, x, 8);
            }
        });
        book.due(8, given, h -> h.change(0, 5, 0), "a square that is given");
        book.due(82, given, h -> h.value(0, 1), "the value of the area that loses squares there");
        book.due(0, given, h -> h.value(0, 8), "the value of the area that gets them there");
        book.due(0, given, h -> h.size(0, 8), "the size of the area that gets them there");
        book.due("", given, h -> Sentences.squares(h, 0, 8), "the layer's own squares");
    }

    private void changedByWhom() {
        book.says(0, "It is reconciled in a session: a square is changed by the version if it "
                + "differs there from the base, and changed by the layer if the layer differs now "
                + "from the base.");
        book.refused(Sentences.STATE, Scene.BETWEEN, h -> h.reconcile(0, 'v'), "no session");
        // Base, layer and version at the square 0, then conflicts and the area behind an 'l'.
        int[][] cases = {{1, 1, 1, 0, 1}, {1, 1, 2, 0, 2}, {1, 2, 1, 0, 2}, {1, 2, 2, 0, 2},
            {1, 2, 3, 1, 2}, {1, 1, -1, 0, -1}, {1, -1, 1, 0, -1}, {1, -1, -1, 0, -1},
            {1, -1, 2, 1, -1}, {1, 2, -1, 1, 2}, {-1, -1, 0, 0, 0}, {-1, 0, -1, 0, 0},
            {-1, 0, 9, 1, 0}, {-1, 0, 0, 0, 0}, {0, -1, 9, 1, -1}};
        for (int[] each : cases) {
            Scene scene = threeOf(each[0], each[1], each[2]);
            String what = "base " + each[0] + ", layer " + each[1] + ", version " + each[2];
            book.due(each[3], scene, h -> h.conflicts(0), "conflicts: " + what);
            book.due(each[4], scene, h -> {
                h.reconcile(0, 'l');
                return h.areaAt(1, 0);
            }, "the square behind an 'l': " + what);
            book.due(each[2] == each[0] ? each[1] : each[2], scene, h -> {
                h.reconcile(0, 'v');
                return h.areaAt(1, 0);
            }, "the square behind a 'v': " + what);
        }
        book.due(0, threeOf(1, 1, 2), h -> {
            h.change(0, 0, 1);
            return h.reconcile(0, 'v');
        }, "changed by the version and back again");
        book.due(1, threeOf(1, 2, 3), h -> {
            h.paint(1, 1, 0, 0, 1, 1);
            return h.conflicts(0) + h.reconcile(0, 'l');
        }, "changed by the layer and back again");
    }

    /** The square 0 of layer 1 by the base, now, and in the version 0 of this square alone. */
    private static Scene threeOf(int base, int layer, int version) {
        return Scene.BEGUN.with(house -> {
            house.paint(1, base, 0, 0, 1, 1);
            house.keep();
            house.checkOut(1, 0, 0, 1, 1);
            house.change(0, 0, version);
            house.begin(0);
            house.paint(1, layer, 0, 0, 1, 1);
        });
    }

    private void versionAlone() {
        book.says(0, "A square that is changed by the version alone is given as the version tells.");
        for (int area = -1; area < 10; area += 5) {
            int told = area;
            Scene changed = Scene.NEW.with(house -> {
                house.begin(0);
                house.paint(2, 1, 0, 0, 16, 16);
                house.keep();
                house.checkOut(2, 0, 0, 16, 16);
                house.change(0, 0, told);
                house.change(0, 255, told);
                house.begin(0);
            });
            for (char side : new char[] {'v', 'l'}) {
                book.due(2, changed, h -> h.reconcile(0, side), "two squares with " + side);
                book.due("0 255", changed, h -> {
                    h.reconcile(0, side);
                    return Sentences.squares(h, 2, told);
                }, "given to " + area + " with " + side);
            }
        }
    }

    /** A version of the rows 0 and 1 of layer 0, all of which the layer changed to the area 9. */
    private static Scene rows(int... conflicts) {
        return house -> {
            house.checkOut(0, 0, 0, 16, 2);
            house.begin(0);
            house.paint(0, 9, 0, 0, 16, 16);
            for (int square : conflicts) {
                house.change(0, square, square % 9);
            }
        };
    }

    private void conflictsAndClashes() {
        book.says(0, "A square that is changed by both, to unlike areas, is a conflict; conflicts "
                + "that are neighbours of one another, in one or more steps, are one clash.");
        int[][] cases = {{}, {0}, {31}, {0, 1}, {0, 2}, {0, 16}, {0, 17}, {15, 16}, {0, 15},
            {0, 1, 17}, {0, 17, 16}, {0, 1, 2, 3}, {0, 31}, {0, 1, 3, 4}, {0, 1, 17, 18, 2, 16},
            {0, 2, 4, 6, 8, 10, 12, 14}, {0, 17, 2, 19, 4, 21, 6, 23, 8, 25, 10, 27, 12, 29, 14, 31}};
        int[] clashes = {0, 1, 1, 1, 2, 1, 2, 2, 2, 1, 1, 1, 2, 2, 1, 8, 16};
        for (int each = 0; each < cases.length; each++) {
            int[] squares = cases[each];
            String what = java.util.Arrays.toString(squares);
            book.due(squares.length, rows(squares), h -> h.conflicts(0), "conflicts at " + what);
            book.due(clashes[each], rows(squares), h -> h.clashes(0), "clashes at " + what);
        }
        Scene alike = rows(0, 1, 2).with(house -> house.change(0, 1, 9));
        book.due(2, alike, h -> h.conflicts(0), "changed by both to the same area");
        book.due(2, alike, h -> h.clashes(0), "the same area parts the clash");
        Scene back = rows(0, 1, 2).with(house -> house.change(0, 1, -1));
        book.due(2, back, h -> h.conflicts(0), "changed by the layer alone");
        book.due(2, back, h -> h.clashes(0), "what the layer alone changed parts the clash");
        int[] all = new int[32];
        for (int square = 0; square < 32; square++) {
            all[square] = square;
        }
        book.due(32, rows(all), h -> h.conflicts(0), "all squares of the box");
        book.due(1, rows(all), h -> h.clashes(0), "all squares of the box are one clash");
    }

    private void sides() {
        book.says(0, "With 'v', conflicts are given as the version tells, with 'l', they are left.");
        Scene conflicts = rows(0, 31).with(house -> house.change(0, 1, -1));
        book.due(2, conflicts, h -> h.reconcile(0, 'v'), "two conflicts with v");
        book.due(0, conflicts, h -> h.reconcile(0, 'l'), "two conflicts with l");
        Scene given = conflicts.with(house -> house.reconcile(0, 'v'));
        book.due(0, given, h -> h.areaAt(0, 0), "the first square, given with v");
        book.due(4, given, h -> h.areaAt(0, 31), "the last square, given with v");
        Scene left = conflicts.with(house -> house.reconcile(0, 'l'));
        book.due(9, left, h -> h.areaAt(0, 0), "the first square, left with l");
        book.due(9, left, h -> h.areaAt(0, 31), "the last square, left with l");
        book.due(9, given, h -> h.areaAt(0, 1), "changed by the layer alone, left with v");
        book.due(254, given, h -> h.size(0, 9), "all that was no conflict is left with v");
    }

    private void oneByOne() {
        book.says(0, "Squares are given one by one, by rising numbers, each as an edit by itself.");
        Scene told = Scene.BEGUN.with(house -> {
            house.paint(0, 1, 0, 0, 3, 1);
            house.setValue(0, 1, 10);
            house.paint(0, 2, 0, 1, 3, 1);
            house.setValue(0, 2, 10);
            house.keep();
            house.checkOut(0, 0, 0, 3, 2);
            house.change(0, 0, 3);
            house.change(0, 1, 2);
            house.change(0, 16, 1);
            house.begin(0);
        });
        // 0: a third of 10 goes from 1 to 3; 1: half of 7 from 1 to 2; 16: a fourth of 13 from 2.
        Scene given = told.with(house -> house.reconcile(0, 'v'));
        book.due(3, given, h -> h.value(0, 3), "one of three squares with 10");
        book.due(10, given, h -> h.value(0, 2), "13, less a fourth, rounded down");
        book.due(7, given, h -> h.value(0, 1), "4, and 3 of the 13");
        book.due(20L, given, h -> h.values(0), "nothing is lost on the way");
        Scene rising = Scene.BEGUN.with(house -> {
            house.paint(0, 1, 0, 0, 3, 1);
            house.setValue(0, 1, 11);
            house.keep();
            house.checkOut(0, 0, 0, 3, 1);
            house.change(0, 0, 2);
            house.change(0, 1, 3);
            house.begin(0);
            house.reconcile(0, 'l');
        });
        book.due(3, rising, h -> h.value(0, 2), "a third of 11 goes with the lower number");
        book.due(4, rising, h -> h.value(0, 3), "half of 8 goes with the greater number");
        Scene gone = told.with(house -> {
            house.change(0, 1, 3);
            house.change(0, 2, 3);
            house.change(0, 16, 2);
            house.reconcile(0, 'v');
        });
        book.due(10, gone, h -> h.value(0, 3), "3, then 3 of 7, then all 4");
        book.due(0, gone, h -> h.value(0, 1), "nothing is left without squares");
        Scene copies = told.with(house -> {
            house.setDivides(0, false);
            house.reconcile(0, 'v');
        });
        book.due(10, copies, h -> h.value(0, 1), "the layer copies");
        book.due(0, copies, h -> h.value(0, 3), "the layer copies: nothing is added");
    }

    private void baseThen() {
        book.says(0, "The base is then what the layer is, and so are the squares of the version.");
        Scene left = Scene.WITHIN.with(house -> house.reconcile(0, 'l'));
        book.due(6, left, h -> h.change(0, 17, 0), "a conflict that was left");
        book.due(6, left, h -> h.change(0, 33, 0), "changed by the layer alone");
        book.due(-1, left, h -> h.change(0, 35, 0), "changed by the version alone");
        book.due(0, left, h -> h.conflicts(0), "no conflict is left");
        book.due(0, left, h -> h.reconcile(0, 'v'), "nothing is left to be given");
        book.due(1, left, h -> {
            h.change(0, 17, 1);
            h.paint(0, 2, 1, 1, 1, 1);
            return h.conflicts(0);
        }, "both differ from the base as it is then");
        book.due(0, left, h -> {
            h.paint(0, 7, 1, 1, 1, 1);
            return h.conflicts(0);
        }, "the version itself differs no more");
        book.due(1, left, h -> {
            h.change(0, 17, 1);
            return h.reconcile(0, 'l');
        }, "what was the base before is a change now");
    }

    private void pieces() {
        book.says(0, "The overlay of two layers has pieces: sets of squares that belong to the same "
                + "area, or to none, in the first layer, and so in the second one, and hang together "
                + "over neighbours; but not of squares that belong to none in both.");
        book.due(0, Scene.NEW, h -> h.pieces(0, 1), "none in both");
        book.due(1, Scene.BEGUN, h -> {
            h.paint(0, 0, 0, 0, 16, 16);
            return h.pieces(0, 1);
        }, "one area, and none in the second layer");
        book.due(1, Scene.BEGUN, h -> {
            h.paint(1, 9, 0, 0, 16, 16);
            return h.pieces(0, 1);
        }, "one area, and none in the first layer");
        book.due(1, Scene.BEGUN, h -> {
            h.paint(0, 9, 0, 0, 16, 16);
            h.paint(1, 9, 0, 0, 16, 16);
            return h.pieces(0, 1);
        }, "an area in both");
        book.due(256, Scene.BEGUN, h -> {
            for (int line = 0; line < 16; line++) {
                h.paint(0, line % 2, line, 0, 1, 16);
                h.paint(1, line % 2, 0, line, 16, 1);
            }
            return h.pieces(0, 1);
        }, "as many as squares");
        // The areas of the squares 0 and 1 in the first and in the second layer.
        int[][] cases = {{1, 1, -1, -1, 1}, {1, 2, -1, -1, 2}, {1, -1, -1, -1, 1}, {1, -1, 3, 3, 2},
            {1, 1, 3, 3, 1}, {1, 1, 3, 4, 2}, {1, 1, 3, -1, 2}, {-1, -1, 3, -1, 1}, {1, -1, -1, 3, 2},
            {-1, -1, 0, 0, 1}, {0, 0, 0, 9, 2}};
        for (int[] each : cases) {
            Scene two = Scene.BEGUN.with(house -> {
                house.paint(0, each[0], 0, 0, 1, 1);
                house.paint(0, each[1], 1, 0, 1, 1);
                house.paint(1, each[2], 0, 0, 1, 1);
                house.paint(1, each[3], 1, 0, 1, 1);
            });
            String what = java.util.Arrays.toString(each);
            book.due(each[4], two, h -> h.pieces(0, 1), "two squares " + what);
            book.due(each[4], two, h -> h.pieces(1, 0), "two squares, the other way, " + what);
        }
        book.due(1, Scene.BEGUN, h -> {
            h.paint(0, 1, 0, 0, 16, 16);
            for (int y = 1; y < 16; y += 2) {
                h.paint(0, -1, y / 2 % 2, y, 15, 1);
            }
            return h.pieces(0, 1);
        }, "one that winds through the map");
    }

    private void pieceNumbers() {
        book.says(0, "Pieces are numbered from 0 by their lowest square.");
        Scene ring = Scene.BEGUN.with(house -> {
            house.paint(0, 9, 2, 2, 3, 3);
            house.paint(0, 0, 3, 3, 1, 1);
            house.paint(0, 5, 0, 15, 1, 1);
            house.paint(0, 4, 15, 1, 1, 1);
            house.paint(0, 9, 15, 15, 1, 1);
        });
        int[] areas = {4, 9, 0, 5, 9};
        int[] sizes = {1, 8, 1, 1, 1};
        for (int each = 0; each < 5; each++) {
            int piece = each;
            book.due(areas[each], ring, h -> h.parent(0, 1, piece, false), "area of piece " + each);
            book.due(sizes[each], ring, h -> h.pieceSize(0, 1, piece), "size of piece " + each);
        }
        book.refusedNumbers(Sentences.NO_ELEMENT, ring, (h, piece) -> h.pieceSize(0, 1, piece),
                "no piece", -1, 5);
    }

    private void bordersAndRims() {
        book.says(0, "The border of two areas of a layer is the number of pairs of neighbours of "
                + "which one square belongs to the first area, and the other to the second one; the "
                + "rim of an area is the number of sides of its squares at which no square of it "
                + "lies.");
        Scene halves = Scene.BEGUN.with(house -> {
            house.paint(0, 0, 0, 0, 8, 16);
            house.paint(0, 9, 8, 0, 8, 16);
        });
        book.due(16, halves, h -> h.border(0, 0, 9), "two halves");
        book.due(16, halves, h -> h.border(0, 9, 0), "two halves, the other way");
        book.due(48, halves, h -> h.rim(0, 0), "the rim of a half");
        book.due(0, halves, h -> h.border(0, 0, 1), "an area without squares");
        book.due(0, halves, h -> h.rim(0, 1), "the rim of an area without squares");
        book.due(0, halves, h -> h.border(0, 1, 2), "two areas without squares");
        Scene checkered = Scene.BEGUN.with(house -> {
            house.paint(0, 1, 0, 0, 16, 16);
            for (int square = 0; square < 128; square++) {
                house.paint(0, 2, 2 * (square % 8) + square / 8 % 2, square / 8, 1, 1);
            }
        });
        book.due(480, checkered, h -> h.border(0, 1, 2), "all pairs of neighbours");
        book.due(512, checkered, h -> h.rim(0, 1), "all sides of 128 squares");
        book.due(64, Scene.BEGUN.with(h -> h.paint(0, 4, 0, 0, 16, 16)), h -> h.rim(0, 4),
                "the rim of the whole map");
        book.due(4, Scene.BEGUN.with(h -> h.paint(0, 4, 0, 0, 1, 1)), h -> h.rim(0, 4),
                "the rim of one square at the map's corner");
        Scene hole = Scene.BEGUN.with(house -> {
            house.paint(0, 4, 4, 4, 3, 3);
            house.paint(0, 5, 5, 5, 1, 1);
        });
        book.due(16, hole, h -> h.rim(0, 4), "the rim of an area with a hole");
        book.due(4, hole, h -> h.border(0, 5, 4), "the border of a hole");
        book.due(12, hole.with(h -> h.paint(0, -1, 4, 4, 3, 1)), h -> h.rim(0, 4),
                "the rim beside squares of none");
    }

    private static Scene twoAt(int one, int two) {
        return Scene.BEGUN.with(house -> {
            house.paint(2, 0, one % 16, one / 16, 1, 1);
            house.paint(2, 9, two % 16, two / 16, 1, 1);
        });
    }

    private void distances() {
        book.says(0, "The distance of two areas of a layer is the least number of steps between "
                + "neighbours from a square of the first one to a square of the second one.");
        int[][] cases = {{0, 1, 1}, {0, 16, 1}, {0, 17, 2}, {0, 255, 30}, {15, 240, 30}, {15, 16, 16},
            {0, 15, 15}, {0, 240, 15}, {254, 255, 1}, {100, 102, 2}, {240, 15, 30}, {7, 247, 15}};
        for (int[] each : cases) {
            Scene two = twoAt(each[0], each[1]);
            String what = "from " + each[0] + " to " + each[1];
            book.due(each[2], two, h -> h.distance(2, 0, 9), what);
            book.due(each[2], two, h -> h.distance(2, 9, 0), what + ", the other way");
        }
        Scene nearer = twoAt(0, 255).with(house -> {
            house.paint(2, 0, 10, 0, 1, 1);
            house.paint(2, 9, 12, 3, 1, 1);
        });
        book.due(5, nearer, h -> h.distance(2, 0, 9), "the least of several");
        Scene wall = twoAt(0, 2).with(house -> house.paint(2, 5, 1, 0, 1, 16));
        book.due(2, wall, h -> h.distance(2, 0, 9), "steps lead over squares of other areas");
        book.due(1, wall, h -> h.distance(2, 5, 9), "from a wall of 16 squares");
    }

    private void belts() {
        book.says(0, "The belt of an area with the width w are the squares that are not of it, and "
                + "from which at most w steps lead to one of it.");
        Scene corner = twoAt(0, 255);
        int[] widths = {1, 2, 3, 14, 15, 16, 28, 29, 30};
        int[] due = {2, 5, 9, 119, 135, 150, 252, 254, 255};
        for (int each = 0; each < widths.length; each++) {
            int width = widths[each];
            book.due(due[each], corner, h -> h.belt(2, 0, width), "from the corner 0, " + width);
            book.due(due[each], corner, h -> h.belt(2, 9, width), "from the corner 255, " + width);
        }
        book.due(0, corner, h -> h.belt(2, 5, 30), "an area without squares");
        book.due(0, Scene.BEGUN.with(h -> h.paint(2, 5, 0, 0, 16, 16)), h -> h.belt(2, 5, 30),
                "an area with all squares");
        book.due(1, Scene.BEGUN.with(house -> {
            house.paint(2, 5, 0, 0, 16, 16);
            house.paint(2, 6, 7, 7, 1, 1);
        }), h -> h.belt(2, 5, 1), "all squares but one");
        book.due(16, Scene.BEGUN.with(h -> h.paint(2, 5, 15, 0, 1, 16)), h -> h.belt(2, 5, 1),
                "rows do not hang together at their ends");
        book.due(16, Scene.BEGUN.with(h -> h.paint(2, 5, 0, 15, 16, 1)), h -> h.belt(2, 5, 1),
                "nor do columns");
    }

    private void coarserMap() {
        book.says(0, "The coarser map of a layer for a least size: as long as there is an area that "
                + "has squares, is smaller than this, and has a border with another one: of these "
                + "the one with the least size, of several the lowest number, is joined to the one "
                + "with which it has the longest border, of several the lowest number; the sum is "
                + "an area with the number of the latter one.");
        book.due(0, Scene.NEW, h -> h.coarseAreas(0, 256), "no area has squares");
        Scene two = Scene.BEGUN.with(house -> {
            house.paint(0, 3, 0, 0, 2, 1);
            house.paint(0, 7, 2, 0, 3, 1);
        });
        book.due(3, two, h -> h.coarse(0, 2, 3), "as small as the least size");
        book.due(7, two, h -> h.coarse(0, 3, 3), "smaller by 1 than the least size");
        book.due(7, two, h -> h.coarse(0, 3, 7), "the latter one keeps its number");
        book.due(1, two, h -> h.coarseAreas(0, 256), "the sum has no border any more");
        Scene apart = Scene.BEGUN.with(house -> {
            house.paint(0, 3, 0, 0, 2, 1);
            house.paint(0, 7, 2, 1, 3, 1);
            house.paint(0, 8, 15, 0, 1, 1);
            house.paint(0, 9, 0, 1, 1, 1);
        });
        book.due(7, apart, h -> h.coarse(0, 256, 7), "at a corner there is no border");
        book.due(8, apart, h -> h.coarse(0, 256, 8), "at the ends of rows there is no border");
        book.due(3, apart, h -> h.coarse(0, 256, 9), "below there is one");
        book.due(3, apart, h -> h.coarseAreas(0, 256), "three are left");
        Scene none = two.with(house -> house.paint(0, -1, 2, 0, 1, 1));
        book.due(3, none, h -> h.coarse(0, 256, 3), "a border with none does not count");
        Scene full = Scene.BEGUN.with(house -> {
            house.paint(0, 4, 0, 0, 16, 16);
            house.paint(0, 5, 0, 0, 1, 1);
        });
        book.due(5, full, h -> h.coarse(0, 1, 5), "nothing is smaller than 1");
        book.due(4, full, h -> h.coarse(0, 2, 5), "1 is smaller than 2");
        book.due(4, full, h -> h.coarse(0, 256, 4), "255 is smaller than 256, but it goes first");
    }

    private void coarserTies() {
        // Still the sentence of the coarser map: which area is joined, and to which.
        Scene same = Scene.BEGUN.with(house -> {
            house.paint(0, 9, 0, 0, 2, 1);
            house.paint(0, 0, 2, 0, 2, 1);
        });
        book.due(9, same, h -> h.coarse(0, 3, 0), "of two with the least size the lower number");
        book.due(9, same, h -> h.coarse(0, 3, 9), "it is joined first, so the other one stays");
        Scene least = Scene.BEGUN.with(house -> {
            house.paint(0, 0, 0, 0, 3, 1);
            house.paint(0, 9, 3, 0, 2, 1);
        });
        book.due(0, least, h -> h.coarse(0, 4, 9), "the least size ahead of the lower number");
        book.due(0, least, h -> h.coarse(0, 4, 0), "the other one is great enough then");
        Scene borders = Scene.BEGUN.with(house -> {
            house.paint(0, 0, 0, 0, 5, 1);
            house.paint(0, 9, 0, 2, 5, 1);
            house.paint(0, 5, 0, 1, 3, 1);
        });
        book.due(0, borders, h -> h.coarse(0, 4, 5), "of two borders of 3 the lower number");
        book.due(9, borders.with(h -> h.paint(0, -1, 0, 0, 1, 1)), h -> h.coarse(0, 4, 5),
                "the longer border ahead of the lower number");
        Scene alongX = Scene.BEGUN.with(house -> {
            house.paint(0, 0, 0, 4, 10, 1);
            house.paint(0, 5, 4, 4, 3, 1);
            house.paint(0, 9, 4, 5, 3, 3);
        });
        book.due(9, alongX, h -> h.coarse(0, 4, 5), "3 pairs along y are more than 2 along x");
        Scene alongY = Scene.BEGUN.with(house -> {
            house.paint(0, 0, 4, 0, 1, 10);
            house.paint(0, 5, 4, 4, 1, 3);
            house.paint(0, 9, 5, 4, 3, 3);
        });
        book.due(9, alongY, h -> h.coarse(0, 4, 5), "3 pairs along x are more than 2 along y");
        Scene bordered = Scene.BEGUN.with(house -> {
            house.paint(0, 0, 0, 0, 1, 1);
            house.paint(0, 5, 4, 4, 2, 1);
            house.paint(0, 9, 6, 4, 3, 1);
        });
        book.due(9, bordered, h -> h.coarse(0, 3, 5), "the least without a border is passed over");
        book.due(0, bordered, h -> h.coarse(0, 3, 0), "the least without a border stays");
    }

    private void coarserSums() {
        // Still the sentence of the coarser map: sums go on with their size and their borders.
        Scene row = Scene.BEGUN.with(house -> {
            house.paint(0, 8, 0, 0, 1, 1);
            house.paint(0, 2, 1, 0, 2, 1);
            house.paint(0, 6, 3, 0, 4, 1);
            house.paint(0, 4, 7, 0, 8, 1);
        });
        int[][] cases = {{1, 8, 8, 4}, {2, 8, 2, 3}, {2, 2, 2, 3}, {3, 8, 2, 3}, {3, 2, 2, 3},
            {4, 8, 6, 2}, {4, 2, 6, 2}, {4, 6, 6, 2}, {7, 6, 6, 2}, {8, 6, 4, 1}, {8, 8, 4, 1},
            {8, 4, 4, 1}, {256, 4, 4, 1}};
        for (int[] each : cases) {
            String what = " for the least size " + each[0];
            book.due(each[2], row, h -> h.coarse(0, each[0], each[1]), each[1] + what);
            book.due(each[3], row, h -> h.coarseAreas(0, each[0]), "areas" + what);
        }
        // 2 has borders of 3 with 3 and of 4 with 4; with those of 1, the one with 3 is 5.
        Scene summed = Scene.BEGUN.with(house -> {
            house.paint(0, 1, 0, 1, 2, 1);
            house.paint(0, 2, 0, 2, 6, 1);
            house.paint(0, 3, 0, 0, 2, 1);
            house.paint(0, 3, 0, 3, 3, 1);
            house.paint(0, 3, 10, 10, 4, 1);
            house.paint(0, 4, 3, 3, 8, 1);
            house.paint(0, 4, 6, 2, 1, 1);
        });
        book.due(2, summed, h -> h.coarse(0, 3, 1), "two borders of 2, the lower number");
        book.due(3, summed, h -> h.coarse(0, 9, 2), "the sum's borders add up");
        book.due(3, summed, h -> h.coarse(0, 9, 1), "the sum is joined on");
        book.due(4, summed.with(h -> h.paint(0, -1, 0, 1, 2, 1)), h -> h.coarse(0, 9, 2),
                "without the area that is joined first");
        book.due(4, summed, h -> {
            h.coarse(0, 3, 2);
            h.coarse(0, 3, 2);
            h.paint(0, -1, 0, 1, 2, 1);
            return h.coarse(0, 9, 2);
        }, "borders of an earlier map do not count");
    }

    private static Scene named(int length, Scene squares) {
        return Scene.BEGUN.with(squares).with(house -> house.name(0, 1, length));
    }

    private void nameLengths() {
        book.says(0, "An area can have a name with a length from 1 to 6, which needs as many squares "
                + "side by side along x, all of its area.");
        for (int each = 1; each <= 6; each++) {
            int length = each;
            String what = " for a name of " + length;
            book.due(16 * 3 + 4, named(length, h -> h.paint(0, 1, 4, 3, length, 1)),
                    h -> h.placeOf(0, 1), "just as many squares" + what);
            book.due(256 - length, named(length, h -> h.paint(0, 1, 16 - length, 15, length, 1)),
                    h -> h.placeOf(0, 1), "the last squares of the map" + what);
            book.due(0, named(length, h -> h.paint(0, 1, 0, 0, length, 1)),
                    h -> h.placeOf(0, 1), "the first squares of the map" + what);
            if (length > 1) {
                refusedPlace(named(length, h -> h.paint(0, 1, 4, 3, length - 1, 1)),
                        "one square too few" + what);
                refusedPlace(named(length, h -> h.paint(0, 1, 4, 3, 1, length)),
                        "side by side along y" + what);
                refusedPlace(named(length, house -> {
                    house.paint(0, 1, 4, 3, length, 1);
                    house.paint(0, 2, 5, 3, 1, 1);
                }), "another area between them" + what);
                refusedPlace(named(length, house -> {
                    house.paint(0, 1, 16 - length + 1, 3, length - 1, 1);
                    house.paint(0, 1, 0, 4, length - 1, 1);
                }), "from the end of a row to the next one" + what);
            }
        }
    }

    private void refusedPlace(Scene scene, String what) {
        book.refused(Sentences.NO_ELEMENT, scene, h -> h.placeOf(0, 1), what);
    }

    private void nameOrder() {
        book.says(0, "Names are placed in a layer by falling sizes of their areas, of several by "
                + "rising numbers.");
        // Two rows one below the other: one name alone finds a place.
        for (int more = 0; more < 3; more++) {
            int size = 2 + more;
            Scene rows = Scene.BEGUN.with(house -> {
                house.paint(0, 9, 0, 0, 3, 1);
                house.paint(0, 0, 0, 1, size, 1);
                house.name(0, 9, 2);
                house.name(0, 0, 2);
            });
            int placed = size >= 3 ? 0 : 9;
            book.due(placed == 0, rows, h -> isPlaced(h, 0), "area 0 with " + size + " beside 3");
            book.due(placed == 9, rows, h -> isPlaced(h, 9), "area 9 with 3 beside " + size);
        }
        Scene ten = Scene.BEGUN.with(house -> {
            for (int area = 0; area < 10; area++) {
                house.paint(0, area, 0, area, 1 + area / 2, 1);
                house.name(0, area, 1);
            }
        });
        // 8 and 9 have five squares and come first, then 6 and 7 with four.
        int[] due = {16 * 6 + 1, 16 * 7, 16 * 8 + 2, 16 * 9 + 1};
        for (int each = 0; each < 4; each++) {
            int area = 6 + each;
            book.due(due[each], ten, h -> h.placeOf(0, area), "area " + area + " of ten");
        }
    }

    private static boolean isPlaced(Overlayer house, int area) {
        return Sentences.answer(house, h -> h.placeOf(0, area)) instanceof Integer;
    }

    private void nameMiddle() {
        book.says(0, "A name is placed on the squares that lie nearest: the middle of an area is the "
                + "sum of the x of its squares divided by its size, rounded down, and so for y; a "
                + "place, told by its first square, with h as its x plus half the length, rounded "
                + "down, is as bad as the distance of h from the middle x, plus the distance of its "
                + "y from the middle y; the least bad place counts, of several the one with the "
                + "lowest square, of those where no square has a name already, and no neighbour of "
                + "a square has one.");
        // Rows from x 4: the middle is 4 plus half of the size less 1, rounded down.
        int[][] cases = {{1, 1, 4}, {2, 1, 4}, {3, 1, 5}, {4, 1, 5}, {5, 1, 6}, {10, 1, 8},
            {2, 2, 4}, {3, 2, 4}, {4, 2, 4}, {5, 2, 5}, {6, 2, 5}, {3, 3, 4}, {4, 3, 4}, {5, 3, 5},
            {6, 3, 5}, {7, 4, 5}, {8, 4, 5}, {9, 5, 6}, {10, 5, 6}, {9, 6, 5}, {10, 6, 5},
            {12, 6, 6}};
        for (int[] each : cases) {
            book.due(32 + each[2], named(each[1], h -> h.paint(0, 1, 4, 2, each[0], 1)),
                    h -> h.placeOf(0, 1), "a name of " + each[1] + " on " + each[0] + " squares");
        }
        for (int size = 1; size <= 14; size++) {
            int high = size;
            book.due(16 * (2 + (size - 1) / 2) + 3, named(1, h -> h.paint(0, 1, 3, 2, 1, high)),
                    h -> h.placeOf(0, 1), "a name of 1 on " + size + " squares along y");
        }
        // The sum of x is 0 + 1 + 2 + 14 = 17, by 4, rounded down: 4; y: 15 by 4: 3.
        Scene apart = Scene.BEGUN.with(house -> {
            house.paint(0, 1, 0, 0, 3, 1);
            house.paint(0, 1, 14, 15, 1, 1);
            house.name(0, 1, 1);
        });
        book.due(2, apart, h -> h.placeOf(0, 1), "the middle is x 4 and y 3");
        book.due(255, Scene.BEGUN.with(house -> {
            house.paint(0, 1, 15, 15, 1, 1);
            house.name(0, 1, 1);
        }), h -> h.placeOf(0, 1), "the middle is the last square");
    }

    private void namePlaces() {
        // Still the sentence of the places: how bad they are, and which counts of several.
        Scene cross = Scene.BEGUN.with(house -> {
            house.paint(0, 1, 4, 4, 5, 5);
            house.paint(0, 2, 6, 6, 1, 1);
            house.name(0, 1, 1);
        });
        int[] places = {16 * 5 + 6, 16 * 6 + 5, 16 * 4 + 6, 16 * 5 + 5, 16 * 5 + 7, 16 * 6 + 4,
            16 * 4 + 5};
        Scene scene = cross;
        for (int place : places) {
            book.due(place, scene, h -> h.placeOf(0, 1), "the least bad, of several the lowest");
            // The square on the other side goes too, so that the middle stays where it is.
            int other = 16 * (12 - place / 16) + 12 - place % 16;
            scene = scene.with(house -> {
                house.paint(0, 2, place % 16, place / 16, 1, 1);
                house.paint(0, 2, other % 16, other / 16, 1, 1);
            });
        }
        Scene two = Scene.BEGUN.with(house -> {
            house.paint(0, 1, 0, 0, 2, 1);
            house.paint(0, 1, 5, 0, 2, 1);
            house.name(0, 1, 2);
        });
        // The middle is 12 by 4: 3. The places have h 1 and h 6.
        book.due(0, two, h -> h.placeOf(0, 1), "h 1 is less bad than h 6");
        book.due(5, two.with(h -> h.paint(0, 1, 9, 5, 1, 9)), h -> h.placeOf(0, 1),
                "with the middle 7, h 6 is less bad than h 1");
    }

    private void nameFree() {
        // Still the sentence of the places: no name there, and none at a neighbour.
        Scene great = Scene.BEGUN.with(house -> {
            house.paint(0, 1, 0, 0, 16, 16);
            house.name(0, 1, 6);
        });
        book.due(16 * 7 + 4, great, h -> h.placeOf(0, 1), "the greater area's name");
        // It lies on x 4 to 9 of y 7.
        int[][] cases = {{3, 7, 0}, {10, 7, 0}, {4, 6, 0}, {9, 6, 0}, {4, 8, 0}, {9, 8, 0}, {6, 8, 0},
            {3, 6, 1}, {10, 6, 1}, {3, 8, 1}, {10, 8, 1}, {2, 7, 1}, {11, 7, 1}, {4, 5, 1}, {9, 9, 1}};
        for (int[] each : cases) {
            Scene small = great.with(house -> {
                house.paint(0, 2, each[0], each[1], 1, 1);
                house.name(0, 2, 1);
            });
            book.due(each[2] == 1, small, h -> isPlaced(h, 2),
                    "a name at x " + each[0] + ", y " + each[1]);
        }
        Scene ends = Scene.BEGUN.with(house -> {
            house.paint(0, 1, 15, 0, 1, 2);
            house.paint(0, 2, 0, 1, 1, 1);
            house.paint(0, 3, 15, 15, 1, 1);
            for (int area = 1; area <= 3; area++) {
                house.name(0, area, 1);
            }
        });
        book.due(15, ends, h -> h.placeOf(0, 1), "a name at the end of the first row");
        book.due(16, ends, h -> h.placeOf(0, 2), "rows do not hang together at their ends");
        book.due(255, ends, h -> h.placeOf(0, 3), "nor do columns");
        Scene other = great.with(house -> {
            house.paint(1, 2, 4, 7, 6, 1);
            house.name(1, 2, 6);
        });
        book.due(16 * 7 + 4, other, h -> h.placeOf(1, 2), "another layer has places of its own");
    }

    private void namesNotPlaced() {
        book.says(0, "If there is none, the name is not placed.");
        refusedPlace(named(2, h -> h.paint(0, 1, 4, 4, 1, 4)), "no two squares side by side");
        refusedPlace(named(1, h -> { }), "no squares");
        Scene beside = Scene.BEGUN.with(house -> {
            house.paint(0, 1, 5, 5, 1, 1);
            house.paint(0, 2, 4, 5, 1, 3);
            house.paint(0, 2, 4, 4, 1, 1);
            house.name(0, 1, 1);
            house.name(0, 2, 1);
        });
        refusedPlace(beside, "its one square is the neighbour of a name");
        book.due(16 * 5 + 5, beside.with(h -> h.name(0, 2, 0)), h -> h.placeOf(0, 1),
                "it is placed as soon as the other name is gone");
        book.due(16 * 5 + 5, beside.with(h -> h.name(0, 2, 2)), h -> h.placeOf(0, 1),
                "a name that is not placed itself takes no place");
    }

    private void commonSizes() {
        book.says(0, "An area of a layer is matched with areas of another one by the squares that "
                + "belong to both, their common size.");
        book.refused(Sentences.NO_ELEMENT, Scene.BETWEEN, h -> h.match(0, 1, 2), "none in common");
        book.due('n', Scene.BETWEEN, h -> h.matchKind(0, 1, 2), "none in common");
        book.due(0, Scene.BETWEEN, h -> h.match(0, 1, 1), "13 in common");
        book.due(2, Scene.BETWEEN, h -> h.match(1, 0, 0), "13, 14 and 4 in common");
        book.due(9, Scene.BETWEEN, h -> h.match(1, 9, 0), "one in common");
        Scene none = Scene.BEGUN.with(h -> h.paint(0, 3, 0, 0, 16, 16));
        book.refused(Sentences.NO_ELEMENT, none, h -> h.match(0, 3, 1), "the other layer has no areas");
        book.refused(Sentences.NO_ELEMENT, none, h -> h.match(1, 3, 0), "an area without squares");
    }

    /** Area 5 has 8 squares, of which the areas 0 and 9 of layer 1 have so many. */
    private static Scene common(int zero, int nine) {
        return Scene.BEGUN.with(house -> {
            house.paint(0, 5, 0, 0, 8, 1);
            if (zero > 0) {
                house.paint(1, 0, 0, 0, zero, 1);
            }
            if (nine > 0) {
                house.paint(1, 9, 8 - nine, 0, nine, 1);
            }
        });
    }

    private void bestMatch() {
        book.says(0, "The best match is the area with the greatest common size, greater than 0, of "
                + "several the lowest number.");
        int[][] cases = {{1, 0, 0}, {0, 1, 9}, {1, 1, 0}, {4, 4, 0}, {4, 3, 0}, {3, 4, 9}, {1, 7, 9},
            {7, 1, 0}, {8, 0, 0}, {0, 8, 9}};
        for (int[] each : cases) {
            book.due(each[2], common(each[0], each[1]), h -> h.match(0, 5, 1),
                    "area 0 with " + each[0] + " and area 9 with " + each[1]);
        }
        book.refused(Sentences.NO_ELEMENT, common(0, 0), h -> h.match(0, 5, 1), "both with 0");
        book.due(0, Scene.BEGUN.with(house -> {
            house.paint(0, 5, 0, 0, 10, 1);
            for (int area = 0; area < 10; area++) {
                house.paint(1, area, 9 - area, 0, 1, 1);
            }
        }), h -> h.match(0, 5, 1), "all ten areas with 1");
    }

    private void sureMatch() {
        book.says(0, "It is sure, 's', if twice the common size is greater than both sizes; otherwise "
                + "doubtful, 'd'.");
        // Sizes, and how many squares are in common.
        int[][] cases = {{1, 1, 1, 1}, {2, 1, 1, 0}, {1, 2, 1, 0}, {2, 2, 1, 0}, {3, 3, 2, 1},
            {4, 4, 2, 0}, {4, 4, 3, 1}, {3, 4, 2, 0}, {4, 3, 2, 0}, {8, 8, 4, 0}, {8, 8, 5, 1},
            {8, 9, 5, 1}, {8, 10, 5, 0}, {9, 8, 5, 1}, {10, 8, 5, 0}, {8, 8, 8, 1}};
        for (int[] each : cases) {
            Scene two = Scene.BEGUN.with(house -> {
                house.paint(0, 4, 0, 0, each[0], 1);
                house.paint(1, 6, 0, 1, each[1], 1);
                house.paint(1, 6, 0, 0, each[2], 1);
                house.paint(1, -1, 0, 1, each[2], 1);
            });
            char due = each[3] == 1 ? 's' : 'd';
            String what = "sizes " + each[0] + " and " + each[1] + ", common " + each[2];
            book.due(due, two, h -> h.matchKind(0, 4, 1), what);
            book.due(due, two, h -> h.matchKind(1, 6, 0), what + ", the other way");
        }
    }
}
