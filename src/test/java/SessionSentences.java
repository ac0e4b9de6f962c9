/** Promises 1, 2 and 8 to 10: a new object, and how sessions begin and end. */
final class SessionSentences {
    private final Sentences book;

    SessionSentences(Sentences book) {
        this.book = book;
    }

    void all() {
        newObject();
        begins();
        beginAuthor();
        beginTime();
        beginNoAuthor();
        beginState();
        signs();
        signRule();
        signReturns();
        signNoRule();
        signNoSession();
        keeps();
        keepReturns();
        keepNoSession();
        keepBroken();
        drops();
        dropReturns();
        dropNoSession();
    }

    private void newObject() {
        book.says(1, "Creates a house in which all squares belong to none, at the time 0, without a "
                + "session.");
        for (int each = 0; each < 3; each++) {
            int layer = each;
            book.due(256, Scene.NEW, h -> {
                int none = 0;
                for (int square = 0; square < 256; square++) {
                    none += h.areaAt(layer, square) == -1 ? 1 : 0;
                }
                return none;
            }, "squares of layer " + layer + " that belong to none");
            book.due(0f, Scene.NEW, h -> h.covered(layer), "the share of layer " + layer);
            book.due(0L, Scene.NEW, h -> h.values(layer), "the values of layer " + layer);
            book.due(-1, Scene.NEW, h -> h.areaThen(layer, 255, 0), "by the time 0");
            book.refused(Sentences.ARGUMENT, Scene.NEW, h -> h.areaThen(layer, 255, 1),
                    "the time 1 has not come");
        }
        book.due(0, Scene.NEW, h -> h.begin(0), "the time");
        book.refused(Sentences.STATE, Scene.NEW, h -> h.drop(), "there is no session to drop");
        book.refused(Sentences.STATE, Scene.NEW, h -> h.keep(), "there is no session to keep");
        book.refused(Sentences.NO_ELEMENT, Scene.NEW, h -> h.broken(0), "there is no rule");
        book.refused(Sentences.NO_ELEMENT, Scene.NEW, h -> h.conflicts(0), "there is no version");
        book.due(true, Scene.NEW, h -> h.isSound(), "it is sound");
        book.due(-1, Scene.NEW, h -> {
            Overlayer other = Scene.FULL.house();
            other.name(0, 0, 3);
            return h.areaAt(0, 0) + h.name(0, 0, 0);
        }, "another house is another one");
    }

    private void begins() {
        book.says(2, "Begins a session.");
        book.refused(Sentences.STATE, Scene.NEW, h -> h.paint(0, 0, 0, 0, 1, 1), "ahead of it");
        book.due(1, Scene.NEW, h -> {
            h.begin(0);
            return h.paint(0, 0, 0, 0, 1, 1);
        }, "an edit behind it");
        book.due(2, Scene.BETWEEN, h -> {
            h.begin(0);
            h.sign(0);
            return h.sign(2);
        }, "rules that are signed in it: none was at first");
        book.due(0, Scene.BETWEEN, h -> {
            h.begin(0);
            return h.drop();
        }, "it changes no square");
        for (int each = 0; each < 3; each++) {
            int layer = each;
            long values = Scene.BETWEEN.house().values(layer);
            book.due(values, Scene.BETWEEN, h -> {
                h.begin(0);
                return h.values(layer);
            }, "it changes no value");
        }
    }

    private void beginAuthor() {
        book.says(2, "`author`: the author, 0 to 5");
        for (int each = 0; each <= 5; each++) {
            int author = each;
            book.due(2, Scene.BETWEEN, h -> h.begin(author), "the author " + author);
            book.due(author, Scene.NEW, h -> {
                h.begin(author);
                h.paint(2, 9, 15, 15, 1, 1);
                return h.authorOf(2, 255, h.keep());
            }, "the author of the session by " + author);
        }
    }

    private void beginTime() {
        book.says(2, "Returns the time.");
        book.due(0, Scene.NEW, h -> h.begin(3), "at first");
        book.due(2, Scene.BETWEEN, h -> h.begin(3), "after two sessions");
        book.due(39, Scene.ONE_LEFT, h -> h.begin(3), "ahead of the last session");
        book.due(39, Scene.LAST_WITHIN, h -> {
            h.drop();
            return h.begin(3);
        }, "behind a drop");
    }

    private void beginNoAuthor() {
        book.says(2, "Throws `IllegalArgumentException` if there is no such author");
        Scene[] scenes = {Scene.NEW, Scene.BETWEEN, Scene.WITHIN, Scene.ONE_LEFT, Scene.FULL};
        for (Scene scene : scenes) {
            book.refusedNumbers(Sentences.ARGUMENT, scene, (h, author) -> h.begin(author),
                    "author", -1, 6, Sentences.LEAST, Sentences.GREATEST);
        }
    }

    private void beginState() {
        book.says(2, "Throws `IllegalStateException` if there is a session, or 40 were kept");
        for (int each = 0; each <= 5; each++) {
            int author = each;
            book.refused(Sentences.STATE, Scene.BEGUN, h -> h.begin(author), "a session");
            book.refused(Sentences.STATE, Scene.WITHIN, h -> h.begin(author), "a session");
            book.refused(Sentences.STATE, Scene.LAST_WITHIN, h -> h.begin(author), "a session");
            book.refused(Sentences.STATE, Scene.FULL, h -> h.begin(author), "40 were kept");
            book.due(39, Scene.ONE_LEFT, h -> h.begin(author), "39 were kept");
        }
        book.due(3, Scene.WITHIN, h -> {
            h.sign(2);
            h.keep();
            return h.begin(0);
        }, "the session was kept");
        book.due(2, Scene.WITHIN, h -> {
            h.drop();
            return h.begin(0);
        }, "the session was dropped");
    }

    private void signs() {
        book.says(8, "Signs a rule in the session, by which it may be broken.");
        book.refused(Sentences.UNSUPPORTED, Scene.WITHIN, h -> h.keep(), "it is not signed");
        Scene signed = Scene.WITHIN.with(house -> house.sign(2));
        book.due(3, signed, h -> h.keep(), "it is signed");
        book.due(11, signed, h -> h.broken(2), "it is still broken");
        book.refused(Sentences.UNSUPPORTED, signed.with(house -> {
            house.keep();
            house.begin(0);
        }), h -> h.keep(), "it was signed in another session");
        book.due(1, Scene.NEW, h -> {
            h.addRule('i', 0, 1);
            h.begin(0);
            h.sign(0);
            h.paint(0, 0, 0, 0, 1, 1);
            return h.keep();
        }, "signed ahead of the break");
        for (int each = 0; each < 6; each++) {
            int rule = each;
            Scene next = Scene.NEW.with(house -> {
                for (int number = 0; number < 6; number++) {
                    house.addRule(number == rule ? 'i' : 'n', number == rule ? 0 : 2, 1);
                }
                house.begin(0);
                house.paint(0, 3, 0, 0, 1, 1);
                house.sign(rule);
                house.keep();
                house.begin(0);
            });
            book.refused(Sentences.UNSUPPORTED, next, h -> h.keep(), "rule " + rule + " was signed");
            book.due(1, next, h -> h.sign((rule + 1) % 6), "rule " + rule + " is signed no more");
        }
    }

    private void signRule() {
        book.says(8, "`rule`: the number of the rule");
        for (int each = 0; each < 6; each++) {
            int rule = each;
            // Each rule is broken, so only the one that is signed is passed over.
            Scene broken = Scene.NEW.with(house -> {
                for (int number = 0; number < 6; number++) {
                    house.addRule('i', 0, 1);
                }
                house.begin(0);
                house.paint(0, 0, 0, 0, 1, 1);
                for (int number = 0; number < 6; number++) {
                    if (number != rule) {
                        house.sign(number);
                    }
                }
            });
            book.refused(Sentences.UNSUPPORTED, broken, h -> h.keep(), "all but " + rule);
            book.due(1, broken, h -> {
                h.sign(rule);
                return h.keep();
            }, "the rule " + rule + " too");
        }
    }

    private void signReturns() {
        book.says(8, "Returns the number of rules that are signed.");
        for (int each = 1; each <= 6; each++) {
            int count = each;
            book.due(count, Scene.ONE_LEFT, h -> {
                h.begin(0);
                int signed = 0;
                for (int rule = 6 - count; rule < 6; rule++) {
                    signed = h.sign(rule);
                }
                return signed;
            }, count + " rules");
        }
        book.due(1, Scene.WITHIN, h -> h.sign(1), "a rule that is signed already");
        book.due(2, Scene.WITHIN, h -> h.sign(0), "another rule");
        book.due(3, Scene.WITHIN, h -> {
            h.sign(2);
            h.sign(2);
            return h.sign(0);
        }, "all three");
        book.due(1, Scene.WITHIN, h -> {
            h.drop();
            h.begin(0);
            return h.sign(0);
        }, "in the next session");
        book.due(1, Scene.NEW, h -> {
            h.addRule('i', 0, 1);
            h.addRule('i', 1, 0);
            h.begin(0);
            h.sign(0);
            h.drop();
            h.begin(0);
            return h.sign(1);
        }, "in the next session, though the first one was dropped");
    }

    private void signNoRule() {
        book.says(8, "Throws `NoSuchElementException` if there is no such rule");
        Sentences.NumberCall sign = (h, rule) -> h.sign(rule);
        int[] far = {-1, 6, Sentences.LEAST, Sentences.GREATEST};
        book.refusedNumbers(Sentences.NO_ELEMENT, Scene.BEGUN, sign, "of no rules", 0, 1, 5);
        book.refusedNumbers(Sentences.NO_ELEMENT, Scene.BEGUN, sign, "of no rules", far);
        book.refusedNumbers(Sentences.NO_ELEMENT, Scene.WITHIN, sign, "of three rules", 3, 4, 5);
        book.refusedNumbers(Sentences.NO_ELEMENT, Scene.WITHIN, sign, "of three rules", far);
        book.refusedNumbers(Sentences.NO_ELEMENT, Scene.LAST_WITHIN, sign, "of six rules", far);
        book.refusedNumbers(Sentences.NO_ELEMENT, Scene.BETWEEN, sign, "of three, no session", far);
        book.due(2, Scene.WITHIN, h -> h.sign(2), "the last of three");
        book.due(1, Scene.LAST_WITHIN, h -> h.sign(5), "the last of six");
    }

    private void signNoSession() {
        book.says(8, "Throws `IllegalStateException` if there is no session");
        book.refusedNumbers(Sentences.STATE, Scene.BETWEEN, (h, rule) -> h.sign(rule), "rule",
                0, 1, 2);
        book.refusedNumbers(Sentences.STATE, Scene.FULL, (h, rule) -> h.sign(rule), "rule", 0, 5);
        Scene dropped = Scene.WITHIN.with(house -> house.drop());
        book.refused(Sentences.STATE, dropped, h -> h.sign(0), "the session was dropped");
    }

    private void keeps() {
        book.says(9, "Keeps the session.");
        Scene kept = Scene.WITHIN.with(house -> {
            house.sign(2);
            house.keep();
        });
        book.due(6, kept, h -> h.areaAt(0, 17), "a square that was edited");
        book.due(6, kept, h -> h.areaThen(0, 17, 3), "it is in the history");
        book.due(3, kept, h -> h.authorOf(0, 17, 3), "with its author");
        book.due(15, kept, h -> h.value(0, 6), "a value that was set");
        book.due(3, kept, h -> h.begin(0), "the session is over");
        book.due(6, kept, h -> {
            h.begin(0);
            h.paint(0, 1, 1, 1, 1, 1);
            h.drop();
            return h.areaAt(0, 17);
        }, "a later drop comes back to it");
        book.due(15, kept, h -> {
            h.begin(0);
            h.setValue(0, 6, 1);
            h.drop();
            return h.value(0, 6);
        }, "a later drop comes back to its values");
        book.due(true, kept, h -> h.isSound(), "it is sound");
    }

    private void keepReturns() {
        book.says(9, "Returns the time then.");
        book.due(1, Scene.BEGUN, h -> h.keep(), "the first session");
        book.due(3, Scene.WITHIN.with(house -> house.sign(2)), h -> h.keep(), "the third session");
        book.due(40, Scene.LAST_WITHIN, h -> h.keep(), "the last session");
        book.due(40, Scene.FULL, h -> {
            int latest = 0;
            for (int time = 0; time < 50; time++) {
                int asked = time;
                boolean isThere = Sentences.answer(h, x -> x.areaThen(0, 0, asked)) instanceof Integer;
                latest = isThere ? time : latest;
            }
            return latest;
        }, "the last time that has come");
    }

    private void keepNoSession() {
        book.says(9, "Throws `IllegalStateException` if there is no session");
        Scene[] scenes = {Scene.NEW, Scene.BETWEEN, Scene.FULL, Scene.BEGUN.with(h -> h.keep()),
            Scene.BEGUN.with(h -> h.drop()), Scene.LAST_WITHIN.with(h -> h.keep())};
        for (Scene scene : scenes) {
            book.refused(Sentences.STATE, scene, h -> h.keep(), "no session");
        }
    }

    private void keepBroken() {
        book.says(9, "Throws `UnsupportedOperationException` if a rule is broken that is not signed");
        book.refused(Sentences.UNSUPPORTED, Scene.WITHIN, h -> h.keep(), "rule 1 alone is signed");
        for (int each = 0; each < 6; each++) {
            int broken = each;
            Scene scene = Scene.NEW.with(house -> {
                for (int rule = 0; rule < 6; rule++) {
                    house.addRule(rule == broken ? 'i' : 'n', rule == broken ? 0 : 2, 1);
                }
                house.begin(0);
                house.paint(0, 3, 15, 15, 1, 1);
                house.sign((broken + 1) % 6);
                house.sign((broken + 5) % 6);
            });
            book.refused(Sentences.UNSUPPORTED, scene, h -> h.keep(), "rule " + broken + " alone");
            book.due(1, scene.with(h -> h.sign(broken)), h -> h.keep(), "it is signed");
            book.due(1, scene.with(h -> h.paint(1, 0, 15, 15, 1, 1)), h -> h.keep(),
                    "it is broken no more");
        }
        book.due(40, Scene.LAST_WITHIN, h -> h.keep(), "no rule is broken");
    }

    private void drops() {
        book.says(10, "Drops the session.");
        Scene dropped = Scene.WITHIN.with(house -> house.drop());
        book.due(1, dropped, h -> h.areaAt(0, 17), "a square is back");
        book.due(5, dropped, h -> h.areaAt(2, 131), "a square of layer 2 is back");
        book.due(82, dropped, h -> h.value(0, 1), "a value is back");
        book.due(0, dropped, h -> h.value(0, 6), "a value that was set is gone");
        book.due(13, dropped, h -> h.size(0, 1), "a size is back");
        book.due(2, dropped, h -> h.begin(0), "the session is over, and the time is what it was");
        book.due(true, dropped, h -> h.isSound(), "it is sound");
        book.refused(Sentences.ARGUMENT, dropped, h -> h.areaThen(0, 17, 3), "nothing was kept");
    }

    private void dropReturns() {
        book.says(10, "Returns the number of squares, of all layers, that change by this.");
        book.due(0, Scene.BEGUN, h -> h.drop(), "nothing was edited");
        book.due(2 + 1, Scene.WITHIN, h -> h.drop(), "two of layer 0 and one of layer 2");
        book.due(768, Scene.BEGUN, h -> {
            for (int layer = 0; layer < 3; layer++) {
                h.paint(layer, 9, 0, 0, 16, 16);
            }
            return h.drop();
        }, "all squares");
        book.due(0, Scene.WITHIN, h -> {
            h.paint(0, 1, 1, 1, 1, 2);
            h.paint(2, 5, 3, 8, 1, 1);
            return h.drop();
        }, "all squares are as they were already");
        book.due(3, Scene.WITHIN, h -> {
            h.paint(0, 7, 1, 1, 1, 1);
            h.paint(0, 8, 1, 1, 1, 1);
            return h.drop();
        }, "a square that was edited more than once");
        book.due(13 + 14 + 4 + 1, Scene.BETWEEN, h -> {
            h.begin(0);
            h.paint(0, -1, 0, 0, 16, 16);
            return h.drop();
        }, "all that were given to none");
        book.due(0, Scene.WITHIN, h -> {
            h.drop();
            h.begin(0);
            h.setValue(0, 1, 5);
            h.setDivides(0, false);
            h.name(0, 1, 1);
            h.change(0, 0, 4);
            return h.drop();
        }, "values, names and versions are no squares");
    }

    private void dropNoSession() {
        book.says(10, "Throws `IllegalStateException` if there is no session");
        Scene[] scenes = {Scene.NEW, Scene.BETWEEN, Scene.FULL, Scene.BEGUN.with(h -> h.keep()),
            Scene.BEGUN.with(h -> h.drop()), Scene.WITHIN.with(h -> h.drop())};
        for (Scene scene : scenes) {
            book.refused(Sentences.STATE, scene, h -> h.drop(), "no session");
        }
    }
}
