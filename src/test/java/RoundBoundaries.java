/** A round, sentence by sentence: A ROUND of the Terms, promises 19 to 28 and what the Terms say of them. */
final class RoundBoundaries extends Boundaries {
    private static final Call LETTER_OF = (x, v) -> x.letterOf(v[0], v[1]);
    private static final Call HOUSE_OF = (x, v) -> x.houseOf(v[0], v[1]);
    private static final Call HEARD = (x, v) -> x.heard(v[0], v[1]);
    private static final Call IS_READ = (x, v) -> x.isRead(v[0], v[1]);
    private static final Call WHO_KNOWS = (x, v) -> x.whoKnows(v[0]);
    private static final Call KNOWS = (x, v) -> x.knows(v[0]);
    private static final Call FIRST = (x, v) -> x.first(v[0], v[1]);
    private static final Call LOUDEST = (x, v) -> x.loudest(v[0]);
    private static final Call WORDS = (x, v) -> x.words(v[0]);
    private static final Call BEST = (x, v) -> x.best(v[0]);

    private RoundBoundaries() {
    }

    static void all() {
        theWay();
        leftOut();
        heardOfPlainKinds();
        heardOfCodedKinds();
        heardAtMost();
        knowing();
        ofWhatKnows();
        ofWords();
        seenOfALane();
        seenOfKnowing();
        first();
        loudest();
        best();
    }

    /** Twelve houses, eight letters to the last of them, all 40 long: the most there can be. */
    private static ReadOutAlongTheWay fullest() {
        ReadOutAlongTheWay x = fresh();
        x.houses(12);
        for (int k = 0; k < 8; k++) {
            x.letter(0, 0, 11, 40);
        }
        return x;
    }

    // ---- A ROUND

    private static void theWay() {
        terms("15, 20", "It goes from HOUSE 0 up (BACK: from the last one down).", () -> {
            ReadOutAlongTheWay x = fresh();
            x.tell(0, 1, 4);
            x.tell(7, 1, 8);
            answers(x, HOUSE_OF, r(0, 4, 0), r(1, 4, 4), r(7, 4, 4));
            x.way(true);
            answers(x, HOUSE_OF, r(7, 4, 0), r(6, 4, 8), r(0, 4, 8));
            x.houses(12);
            x.tell(11, 1, 1);
            answers(x, HOUSE_OF, r(11, 4, 0), r(10, 4, 1), r(7, 4, 1), r(0, 4, 9));
        });
        terms("21, 22", "A LETTER is read at each HOUSE it comes to till TO, there too; behind it at none.", () -> {
            for (int to : new int[] {0, 3, 7}) {
                ReadOutAlongTheWay x = fresh();
                x.letter(0, 0, to, 5);
                for (int house = 0; house < 8; house++) {
                    x.way(false);
                    due("forth to " + to + " at " + house, x.isRead(0, house), house <= to ? 1 : 0);
                    due("heard", x.heard(0, house), house <= to ? 5 : 0);
                    x.way(true);
                    due("back to " + to + " at " + house, x.isRead(0, house), house >= to ? 1 : 0);
                    due("heard", x.heard(0, house), house >= to ? 5 : 0);
                }
            }
        });
    }

    private static void leftOut() {
        terms("20", "TIPSY at a HOUSE: all DRINK of HOUSES come to ahead of it together (its own not).", () -> {
            ReadOutAlongTheWay x = fresh();
            x.tell(0, 1, 1);
            x.tell(1, 1, 2);
            x.tell(2, 1, 9);
            answers(x, HOUSE_OF, r(0, 4, 0), r(1, 4, 1), r(2, 4, 3), r(3, 4, 12), r(7, 4, 12));
            x.way(true);
            answers(x, HOUSE_OF, r(7, 4, 0), r(2, 4, 0), r(1, 4, 9), r(0, 4, 11));
            x.houses(12);
            pouring(x, 0, 11, 9);
            answers(x, HOUSE_OF, r(0, 4, 99), r(11, 4, 0));
            x.way(false);
            answers(x, HOUSE_OF, r(0, 4, 0), r(11, 4, 99));
        });
        terms("20", "LEFT OUT at a HOUSE: a quarter of TIPSY (cut) and a third of COLD (cut).", () -> {
            int[] quarters = {0, 0, 0, 0, 1, 1, 1, 1, 2, 2};
            int[] thirds = {0, 0, 0, 1, 1, 1, 2, 2, 2, 3};
            ReadOutAlongTheWay x = fresh();
            for (int drink = 0; drink < 10; drink++) {
                x.tell(0, 1, drink);
                for (int cold = 0; cold < 10; cold++) {
                    x.cold(cold);
                    due("drink " + drink + ", cold " + cold, x.houseOf(1, 5), quarters[drink] + thirds[cold]);
                }
            }
            due("its own drink not", x.houseOf(0, 5), 3);
            pouring(x, 0, 7, 9);
            due("all ahead together: 63", x.houseOf(7, 5), 15 + 3);
        });
    }

    private static void heardOfPlainKinds() {
        terms("21", "HEARD of a LETTER at a HOUSE at which it is read: LETTER: LENGTH less WIND and LEFT OUT.", () -> {
            ReadOutAlongTheWay x = plain(14);
            x.tell(0, 1, 4);
            for (int wind = 0; wind < 10; wind++) {
                windy(x, 0, 7, wind);
                x.cold(0);
                answers(x, HEARD, r(0, 0, 14 - wind), r(0, 1, 13 - wind), r(0, 7, 13 - wind));
                x.cold(9);
                answers(x, HEARD, r(0, 0, 11 - wind), r(0, 7, 10 - wind));
            }
        });
        terms("21", "SCOLDING: LENGTH less half of WIND (cut) and LEFT OUT.", () -> {
            int[] halves = {0, 0, 1, 1, 2, 2, 3, 3, 4, 4};
            ReadOutAlongTheWay x = fresh();
            x.letter(1, 9, 7, 10);
            x.tell(0, 1, 4);
            for (int wind = 0; wind < 10; wind++) {
                windy(x, 0, 7, wind);
                x.cold(0);
                answers(x, HEARD, r(0, 0, 10 - halves[wind]), r(0, 7, 9 - halves[wind]));
                x.cold(3);
                answers(x, HEARD, r(0, 0, 9 - halves[wind]), r(0, 7, 8 - halves[wind]));
            }
        });
        terms("21", "PLAINT: what is HEARD of a SCOLDING (0 at least), and a more.", () -> {
            ReadOutAlongTheWay x = fresh();
            x.letter(3, 2, 7, 10);
            x.letter(3, 0, 7, 10);
            x.letter(1, 0, 7, 10);
            windy(x, 0, 7, 9);
            pouring(x, 0, 6, 4);
            answers(x, HEARD, r(2, 0, 6), r(1, 0, 6), r(0, 0, 8));
            answers(x, HEARD, r(2, 5, 1), r(1, 5, 1), r(0, 5, 3));
            answers(x, HEARD, r(2, 6, 0), r(1, 6, 0), r(0, 6, 2));
            answers(x, HEARD, r(2, 7, 0), r(1, 7, 0), r(0, 7, 2));
        });
    }

    private static void heardOfCodedKinds() {
        terms("13, 21", "DRAINS: as a LETTER, but nothing, if the HOUSE isn't TO and doesn't know CODE a.", () -> {
            for (int a : new int[] {0, 9}) {
                ReadOutAlongTheWay x = fresh();
                x.letter(2, a, 5, 10);
                x.tell(5, 0, 4);
                x.tell(3, 0, 3);
                x.cold(3);
                for (int code = 0; code < 10; code++) {
                    x.code(4, code, code != a);
                }
                answers(x, HEARD, r(0, 3, 0), r(0, 4, 0), r(0, 5, 5));
                x.code(3, a, true);
                answers(x, HEARD, r(0, 3, 6), r(0, 4, 0), r(0, 5, 5), r(0, 0, 0));
                x.code(5, a, true);
                answers(x, HEARD, r(0, 5, 5));
                x.code(3, a, false);
                answers(x, HEARD, r(0, 3, 0));
            }
        });
        terms("13, 21", "LOVE: as DRAINS, but nothing more than one HOUSE ahead of TO.", () -> {
            ReadOutAlongTheWay x = fresh();
            x.letter(4, 6, 4, 10);
            x.tell(3, 0, 2);
            answers(x, HEARD, r(0, 2, 0), r(0, 3, 0), r(0, 4, 10), r(0, 5, 0));
            for (int house = 0; house < 8; house++) {
                x.code(house, 6, true);
            }
            answers(x, HEARD, r(0, 0, 0), r(0, 2, 0), r(0, 3, 8), r(0, 4, 10), r(0, 5, 0));
            x.way(true);
            answers(x, HEARD, r(0, 7, 0), r(0, 6, 0), r(0, 5, 10), r(0, 4, 10), r(0, 3, 0));
            x.mend(0, 0, 7);
            answers(x, HEARD, r(0, 7, 10), r(0, 6, 0));
            x.mend(0, 0, 0);
            answers(x, HEARD, r(0, 0, 10), r(0, 1, 10), r(0, 2, 0), r(0, 7, 0));
        });
        terms("21", "HONEYED: all of LENGTH at TO, else nothing.", () -> {
            ReadOutAlongTheWay x = fresh();
            x.letter(5, 3, 4, 7);
            windy(x, 0, 7, 9);
            pouring(x, 0, 7, 9);
            x.cold(9);
            for (int house = 0; house < 8; house++) {
                x.code(house, 3, true);
                answers(x, HEARD, r(0, house, house == 4 ? 7 : 0));
            }
            x.way(true);
            answers(x, HEARD, r(0, 4, 7), r(0, 5, 0), r(0, 3, 0));
        });
    }

    private static void heardAtMost() {
        terms("21, 27", "(0 at least, LENGTH at most.)", () -> {
            ReadOutAlongTheWay x = plain(9);
            x.letter(1, 0, 7, 4);
            x.letter(3, 9, 7, 5);
            answers(x, HEARD, r(2, 0, 5));
            x.tell(0, 0, 8);
            answers(x, HEARD, r(0, 0, 1), r(1, 0, 0), r(2, 0, 5));
            x.tell(0, 0, 9);
            answers(x, HEARD, r(0, 0, 0));
            x.cold(9);
            answers(x, HEARD, r(0, 0, 0), r(1, 0, 0), r(2, 0, 5));
            answers(x, WORDS, r(0, 5));
            x.mend(2, 1, 9);
            answers(x, HEARD, r(2, 0, 9));
            x.mend(2, 1, 10);
            answers(x, HEARD, r(2, 0, 10));
            x.mend(2, 1, 40);
            answers(x, HEARD, r(2, 0, 40), r(2, 1, 40));
            x.tell(1, 1, 9);
            pouring(x, 2, 4, 9);
            answers(x, HEARD, r(2, 5, 37));
        });
        terms("21", "At a HOUSE at which it isn't read nothing.", () -> {
            ReadOutAlongTheWay x = fresh();
            for (int kind = 0; kind <= 5; kind++) {
                x.letter(kind, 9, 3, 20);
            }
            x.code(2, 9, true);
            x.code(4, 9, true);
            for (int kind = 0; kind <= 5; kind++) {
                x.way(false);
                answers(x, HEARD, r(kind, 3, 20), r(kind, 4, 0), r(kind, 7, 0));
                x.way(true);
                answers(x, HEARD, r(kind, 3, 20), r(kind, 2, 0), r(kind, 0, 0));
            }
        });
    }

    private static void knowing() {
        terms("23, 24", "A HOUSE KNOWS a LETTER, if what it HEARD of it, twice, is LENGTH or more.", () -> {
            int[][] lengthAndWind = {{10, 5, 1}, {10, 6, 0}, {9, 4, 1}, {9, 5, 0}, {2, 1, 1}, {2, 2, 0}, {1, 0, 1}, {1, 1, 0}};
            for (int[] row : lengthAndWind) {
                ReadOutAlongTheWay x = plain(row[0]);
                x.tell(0, 0, row[1]);
                due("length " + row[0] + ", wind " + row[1], x.whoKnows(0), 254 + row[2]);
                due("what it knows", x.knows(0), row[2]);
            }
            ReadOutAlongTheWay x = plain(40);
            x.cold(9);
            pouring(x, 0, 3, 8);
            windy(x, 0, 7, 9);
            due("20 of 40", x.heard(0, 7), 20);
            due("is half", x.knows(7), 1);
            x.tell(4, 1, 4);
            due("19 of 40", x.heard(0, 7), 19);
            due("is less", x.knows(7), 0);
        });
    }

    // ---- WHAT COMES OF IT: what a house knows and hears

    private static void ofWhatKnows() {
        terms("23, 24", "WHO KNOWS a LETTER: HOUSES (bits); what a HOUSE KNOWS: LETTERS (bits).", () -> {
            ReadOutAlongTheWay x = fullest();
            for (int k = 0; k < 8; k++) {
                due("all know letter " + k, x.whoKnows(k), 4095);
            }
            for (int house = 0; house < 12; house++) {
                due("all are known at " + house, x.knows(house), 255);
            }
            x.mend(7, 0, 0);
            x.mend(0, 0, 10);
            due("one knows it", x.whoKnows(7), 1);
            due("all but the last", x.whoKnows(0), 2047);
            due("the first knows all", x.knows(0), 255);
            due("the second not the last", x.knows(1), 127);
            due("the last not the first either", x.knows(11), 126);
            due("none", unheard().whoKnows(0), 0);
            due("nothing", unheard().knows(0), 0);
        });
        terms("25", "FIRST to KNOW one, by the way of the round; NONE.", () -> {
            ReadOutAlongTheWay x = plain(10);
            x.tell(0, 0, 6);
            answers(x, FIRST, r(0, 0, 1));
            x.tell(0, 0, 5);
            answers(x, FIRST, r(0, 0, 0));
            x.mend(0, 0, 0);
            x.way(true);
            answers(x, FIRST, r(0, 0, 7));
            x.tell(7, 0, 6);
            answers(x, FIRST, r(0, 0, 6));
            asked(Boundaries::unheard, FIRST, r(0, 0, NONE), r(0, 1, NONE));
        });
        terms("26", "LOUDEST of a HOUSE: the LETTER of which most is HEARD, of several the first; NONE: nothing is.", () -> {
            ReadOutAlongTheWay x = plain(5);
            x.letter(0, 0, 6, 5);
            answers(x, LOUDEST, r(0, 0));
            x.mend(1, 1, 6);
            answers(x, LOUDEST, r(0, 1), r(6, 1), r(7, 0));
            x.letter(5, 0, 3, 6);
            x.letter(5, 0, 2, 7);
            answers(x, LOUDEST, r(3, 1), r(2, 3));
            x.way(true);
            x.mend(0, 1, 1);
            answers(x, LOUDEST, r(7, 1), r(6, 1), r(5, NONE), r(0, NONE));
            asked(Boundaries::unheard, LOUDEST, r(0, NONE), r(7, NONE));
        });
    }

    private static void ofWords() {
        terms("27", "WORDS of a HOUSE: all that's HEARD there together.", () -> {
            asked(RoundBoundaries::fullest, WORDS, r(0, 320), r(11, 320));
            asked(Boundaries::unheard, WORDS, r(0, 0), r(7, 0));
            ReadOutAlongTheWay x = plain(5);
            x.letter(0, 0, 6, 7);
            answers(x, WORDS, r(0, 12), r(6, 12), r(7, 5));
        });
        terms("28", "BEST: the HOUSE with most WORDS, of several the first.", () -> {
            ReadOutAlongTheWay x = plain(5);
            answers(x, BEST, r(0, 0));
            x.tell(0, 0, 1);
            answers(x, BEST, r(0, 1));
            x.letter(5, 0, 7, 1);
            answers(x, BEST, r(0, 7));
            x.mend(0, 0, 0);
            x.mend(1, 0, 0);
            x.way(true);
            answers(x, BEST, r(0, 0));
            x.tell(0, 0, 2);
            answers(x, BEST, r(0, 1));
            windy(x, 0, 7, 2);
            answers(x, BEST, r(0, 0));
            asked(Boundaries::unheard, BEST, r(0, 0), r(1, 0), r(2, 0));
        });
        terms("65", "SPENT: all DRINK together.", () -> {
            ReadOutAlongTheWay x = fresh();
            status(x, 4, 0);
            x.tell(0, 1, 9);
            x.tell(7, 1, 9);
            status(x, 4, 18);
            x.houses(12);
            pouring(x, 0, 11, 9);
            status(x, 4, 108);
        });
    }

    // ---- promises 19 to 28

    private static void seenOfALane() {
        promise(19, "Of a LETTER: KIND (0), a (1), TO (2), LENGTH (3).", () -> {
            asked(Boundaries::village, LETTER_OF, r(0, 0, 0), r(0, 1, 1), r(0, 2, 5), r(0, 3, 10), r(5, 0, 5), r(5, 1, 6), r(5, 2, 2), r(5, 3, 5));
            asked(Boundaries::fullVillage, LETTER_OF, r(6, 0, 5), r(6, 1, 9), r(6, 2, 8), r(6, 3, 40), r(7, 0, 0), r(7, 1, 0), r(7, 2, 0), r(7, 3, 1));
        });
        promise(19, "BAD.", () -> {
            edges(Boundaries::village, LETTER_OF, r(0, 0), r(0, 5), r(0, 3));
            refused(BAD, Boundaries::fresh, LETTER_OF, r(0, 0));
        });
        promise(20, "Of a HOUSE: WIND (0), DRINK (1), CODES (bits; 2), EARS (3), TIPSY (4), LEFT OUT (5).", () ->
            asked(Boundaries::village, HOUSE_OF, r(0, 0, 0), r(0, 1, 0), r(0, 2, 0), r(0, 3, 25), r(0, 4, 0), r(0, 5, 1), r(1, 1, 8), r(1, 4, 0),
                r(2, 0, 4), r(2, 1, 0), r(2, 2, 8), r(2, 3, 24), r(2, 4, 8), r(2, 5, 3), r(8, 3, 0), r(8, 4, 8), r(8, 5, 3)));
        promise(20, "BAD.", () -> edges(Boundaries::village, HOUSE_OF, r(0, 0), r(0, 8), r(0, 5)));
        promise(21, "HEARD of a LETTER at a HOUSE.", () -> {
            asked(RoundBoundaries::fullest, HEARD, r(0, 0, 40), r(0, 11, 40), r(7, 0, 40), r(7, 11, 40));
            asked(Boundaries::unheard, HEARD, r(0, 0, 0), r(0, 7, 0));
            asked(Boundaries::village, HEARD, r(0, 5, 7), r(0, 6, 0), r(5, 2, 5), r(5, 8, 0));
        });
        promise(21, "BAD.", () -> {
            edges(Boundaries::village, HEARD, r(0, 0), r(0, 5), r(0, 8));
            refused(BAD, Boundaries::fresh, HEARD, r(0, 0));
        });
        promise(22, "Whether a LETTER is read at a HOUSE: 1, 0.", () -> {
            asked(Boundaries::village, IS_READ, r(0, 0, 1), r(0, 5, 1), r(0, 6, 0), r(5, 2, 1), r(5, 3, 0), r(5, 8, 0));
            asked(Boundaries::unheard, IS_READ, r(0, 0, 1), r(0, 7, 1));
        });
        promise(22, "BAD.", () -> {
            edges(Boundaries::village, IS_READ, r(0, 0), r(0, 5), r(0, 8));
            refused(BAD, Boundaries::fresh, IS_READ, r(0, 0));
        });
    }

    private static void seenOfKnowing() {
        promise(23, "WHO KNOWS a LETTER (bits).", () -> {
            asked(RoundBoundaries::fullest, WHO_KNOWS, r(0, 4095), r(7, 4095));
            asked(Boundaries::unheard, WHO_KNOWS, r(0, 0));
            asked(Boundaries::village, WHO_KNOWS, r(0, 43), r(5, 4));
        });
        promise(23, "BAD.", () -> {
            edges(Boundaries::village, WHO_KNOWS, r(0), r(0, 5));
            refused(BAD, Boundaries::fresh, WHO_KNOWS, r(0));
        });
        promise(24, "What a HOUSE KNOWS (bits).", () -> {
            asked(RoundBoundaries::fullest, KNOWS, r(0, 255), r(11, 255));
            asked(Boundaries::fresh, KNOWS, r(0, 0), r(7, 0));
            asked(Boundaries::village, KNOWS, r(0, 11), r(8, 0));
        });
        promise(24, "BAD.", () -> edges(Boundaries::village, KNOWS, r(0), r(0, 8)));
        promise(27, "WORDS of a HOUSE.", () -> {
            asked(Boundaries::village, WORDS, r(0, 25), r(8, 0));
            asked(Boundaries::fresh, WORDS, r(0, 0), r(7, 0));
        });
        promise(27, "BAD.", () -> edges(Boundaries::village, WORDS, r(0), r(0, 8)));
    }

    private static void first() {
        promise(25, "FIRST to KNOW a LETTER (what 0; NONE), the last (1; NONE), by the way of the round.", () -> {
            asked(Boundaries::village, FIRST, r(0, 0, 0), r(0, 1, 5), r(2, 0, 6), r(2, 1, 6));
            ReadOutAlongTheWay x = village();
            x.way(true);
            answers(x, FIRST, r(0, 0, 8), r(0, 1, 5));
            ReadOutAlongTheWay y = fullest();
            answers(y, FIRST, r(7, 0, 0), r(7, 1, 11));
            y.mend(7, 0, 0);
            answers(y, FIRST, r(7, 0, 0), r(7, 1, 0));
            y.way(true);
            answers(y, FIRST, r(7, 0, 11), r(7, 1, 0));
        });
        promise(25, "BAD.", () -> {
            edges(Boundaries::village, FIRST, r(0, 0), r(0, 5), r(0, 1));
            refused(BAD, Boundaries::fresh, FIRST, r(0, 0), r(0, 1));
        });
        promise(25, "(NONE isn't refused.)", () -> {
            ReadOutAlongTheWay x = unheard();
            answers(x, FIRST, r(0, 0, NONE), r(0, 1, NONE));
            unrefused(x);
            x.cold(2);
            answers(x, FIRST, r(0, 0, 0), r(0, 1, 7));
        });
    }

    private static void loudest() {
        promise(26, "LOUDEST of a HOUSE; NONE.", () -> {
            asked(Boundaries::village, LOUDEST, r(0, 0), r(2, 3), r(7, 1), r(8, NONE));
            asked(Boundaries::fresh, LOUDEST, r(0, NONE));
            ReadOutAlongTheWay x = fullest();
            answers(x, LOUDEST, r(0, 0), r(11, 0));
            for (int k = 0; k < 7; k++) {
                x.mend(k, 1, 39);
            }
            answers(x, LOUDEST, r(0, 7), r(11, 7));
        });
        promise(26, "BAD.", () -> edges(Boundaries::village, LOUDEST, r(0), r(0, 8)));
        promise(26, "(NONE isn't refused.)", () -> {
            ReadOutAlongTheWay x = unheard();
            answers(x, LOUDEST, r(0, NONE), r(7, NONE));
            unrefused(x);
            x.cold(2);
            answers(x, LOUDEST, r(0, 0), r(7, 0));
        });
    }

    private static void best() {
        promise(28, "BEST (what 0), its WORDS (1), the HOUSE with fewest (2), of several the first.", () -> {
            asked(Boundaries::village, BEST, r(0, 0), r(1, 25), r(2, 8));
            asked(RoundBoundaries::fullest, BEST, r(0, 0), r(1, 320), r(2, 0));
            asked(Boundaries::fresh, BEST, r(0, 0), r(1, 0), r(2, 0));
            ReadOutAlongTheWay x = plain(5);
            x.tell(1, 0, 1);
            answers(x, BEST, r(0, 0), r(1, 5), r(2, 1));
            x.tell(1, 0, 0);
            x.tell(3, 0, 1);
            x.tell(5, 0, 1);
            answers(x, BEST, r(0, 0), r(1, 5), r(2, 3));
            x.letter(5, 0, 6, 1);
            x.tell(7, 0, 2);
            answers(x, BEST, r(0, 6), r(1, 6), r(2, 7));
            x.way(true);
            answers(x, BEST, r(0, 7), r(1, 3), r(2, 0));
        });
        promise(28, "BAD.", () -> edges(Boundaries::village, BEST, r(0), r(0, 2)));
    }
}
