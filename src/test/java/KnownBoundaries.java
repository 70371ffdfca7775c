/** Who would know what, sentence by sentence: promises 45 to 58. */
final class KnownBoundaries extends Boundaries {
    private static final Call WISE = (x, v) -> x.wise();
    private static final Call SECRET = (x, v) -> x.secret();
    private static final Call LOST = (x, v) -> x.lost();
    private static final Call REACH = (x, v) -> x.reach(v[0], v[1]);
    private static final Call LACKS = (x, v) -> x.lacks(v[0], v[1]);
    private static final Call ALIKE = (x, v) -> x.alike(v[0], v[1]);
    private static final Call QUIET = (x, v) -> x.quiet(v[0]);
    private static final Call SOBER = (x, v) -> x.sober(v[0]);
    private static final Call THIRST = (x, v) -> x.thirst(v[0]);
    private static final Call TAUGHT = (x, v) -> x.taught(v[0], v[1]);
    private static final Call MERRY = (x, v) -> x.merry(v[0]);
    private static final Call COMMON = (x, v) -> x.common(v[0], v[1]);
    private static final Call DOUBT = (x, v) -> x.doubt(v[0]);
    private static final Call OF_KIND = (x, v) -> x.ofKind(v[0]);

    private KnownBoundaries() {
    }

    static void all() {
        wise();
        secretAndLost();
        reach();
        lacks();
        alike();
        quiet();
        sober();
        thirst();
        taught();
        merry();
        common();
        doubt();
        ofKind();
    }

    private static void wise() {
        promise(45, "HOUSES (bits) that KNOW every LETTER read there, and to which one is read at least.", () -> {
            asked(Boundaries::fresh, WISE, r(0));
            asked(Boundaries::unheard, WISE, r(0));
            asked(Boundaries::village, WISE, r(192));
            ReadOutAlongTheWay x = fresh();
            x.letter(0, 0, 0, 10);
            answers(x, WISE, r(1));
            x.way(true);
            answers(x, WISE, r(255));
            x.way(false);
            x.letter(0, 0, 2, 20);
            answers(x, WISE, r(7));
            x.tell(0, 0, 9);
            answers(x, WISE, r(6));
            x.mend(0, 0, 1);
            answers(x, WISE, r(6));
            x.tell(1, 0, 6);
            answers(x, WISE, r(4));
            x.houses(12);
            x.mend(0, 0, 11);
            answers(x, WISE, r(4092));
        });
    }

    private static void secretAndLost() {
        promise(46, "LETTERS (bits) that TO alone KNOWS.", () -> {
            asked(Boundaries::fresh, SECRET, r(0));
            asked(Boundaries::unheard, SECRET, r(0));
            ReadOutAlongTheWay x = fresh();
            x.letter(0, 0, 0, 10);
            x.letter(0, 0, 1, 10);
            for (int k = 2; k < 8; k++) {
                x.letter(5, 0, k, 10);
            }
            answers(x, SECRET, r(253));
            x.tell(0, 0, 6);
            answers(x, SECRET, r(254));
            x.tell(1, 0, 6);
            answers(x, SECRET, r(252));
            x.tell(0, 0, 5);
            answers(x, SECRET, r(253));
        });
        promise(47, "LETTERS (bits) that TO doesn't KNOW.", () -> {
            asked(Boundaries::fresh, LOST, r(0));
            asked(Boundaries::unheard, LOST, r(1));
            asked(Boundaries::village, LOST, r(0));
            ReadOutAlongTheWay x = fresh();
            for (int k = 0; k < 8; k++) {
                x.letter(0, 0, k, 10);
            }
            answers(x, LOST, r(0));
            windy(x, 0, 7, 5);
            answers(x, LOST, r(0));
            windy(x, 0, 7, 6);
            answers(x, LOST, r(255));
            windy(x, 1, 6, 5);
            answers(x, LOST, r(129));
        });
    }

    private static void reach() {
        promise(48, "At how many HOUSES anything of a LETTER is HEARD (what 0), all that's HEARD of it together (1).", () -> {
            asked(Boundaries::unheard, REACH, r(0, 0, 0), r(0, 1, 0));
            asked(Boundaries::village, REACH, r(0, 0, 5), r(0, 1, 35), r(5, 0, 1), r(5, 1, 5));
            ReadOutAlongTheWay x = plain(9);
            windy(x, 0, 7, 9);
            answers(x, REACH, r(0, 0, 0), r(0, 1, 0));
            x.tell(0, 0, 8);
            x.tell(7, 0, 8);
            answers(x, REACH, r(0, 0, 2), r(0, 1, 2));
            x.houses(12);
            windy(x, 0, 11, 0);
            x.letter(0, 0, 11, 40);
            answers(x, REACH, r(1, 0, 12), r(1, 1, 480), r(0, 0, 8), r(0, 1, 72));
            x.way(true);
            answers(x, REACH, r(1, 0, 1), r(1, 1, 40), r(0, 0, 5), r(0, 1, 45));
            ReadOutAlongTheWay y = plain(9);
            y.way(true);
            answers(y, REACH, r(0, 0, 1), r(0, 1, 9));
        });
        promise(48, "BAD.", () -> {
            edges(Boundaries::village, REACH, r(0, 0), r(0, 5), r(0, 1));
            refused(BAD, Boundaries::fresh, REACH, r(0, 0), r(0, 1));
        });
    }

    private static void lacks() {
        promise(49, "How many words more a HOUSE must hear to KNOW a LETTER (0: it does).", () -> {
            int[][] lengthWindLack = {{10, 5, 0}, {10, 6, 1}, {9, 4, 0}, {9, 5, 1}, {9, 9, 5}, {1, 0, 0}, {1, 1, 1}, {2, 1, 0}, {2, 2, 1}, {40, 9, 0}};
            for (int[] row : lengthWindLack) {
                ReadOutAlongTheWay x = plain(row[0]);
                x.tell(0, 0, row[1]);
                answers(x, LACKS, r(0, 0, row[2]));
            }
            ReadOutAlongTheWay x = fresh();
            x.letter(0, 0, 3, 40);
            x.letter(0, 0, 3, 39);
            answers(x, LACKS, r(0, 3, 0), r(0, 4, 20), r(1, 7, 20), r(1, 0, 0));
            asked(Boundaries::village, LACKS, r(0, 2, 2), r(5, 8, 3));
        });
        promise(49, "BAD.", () -> {
            edges(Boundaries::village, LACKS, r(0, 0), r(0, 5), r(0, 8));
            refused(BAD, Boundaries::fresh, LACKS, r(0, 0));
        });
    }

    private static void alike() {
        promise(50, "Whether two HOUSES KNOW the same LETTERS: 1, 0.", () -> {
            asked(Boundaries::village, ALIKE, r(0, 1, 1), r(1, 0, 1), r(0, 2, 0), r(8, 8, 1), r(0, 8, 0));
            asked(Boundaries::fresh, ALIKE, r(0, 7, 1));
            ReadOutAlongTheWay x = plain(10);
            x.letter(0, 0, 6, 20);
            answers(x, ALIKE, r(0, 6, 1), r(0, 7, 0), r(7, 0, 0));
            x.tell(0, 0, 6);
            answers(x, ALIKE, r(0, 6, 0), r(0, 7, 0));
            x.tell(0, 0, 5);
            answers(x, ALIKE, r(0, 6, 1));
        });
        promise(50, "BAD.", () -> edges(Boundaries::village, ALIKE, r(0, 0), r(0, 8), r(0, 8)));
    }

    private static void quiet() {
        promise(51, "The least WIND (0 to 9) of a HOUSE, all else as it is, by which it KNOWS no LETTER; NONE.", () -> {
            int[][] byLength = {{1, 1}, {2, 2}, {3, 2}, {16, 9}, {17, 9}, {18, NONE}, {40, NONE}};
            for (int[] row : byLength) {
                ReadOutAlongTheWay x = plain(row[0]);
                answers(x, QUIET, r(0, row[1]), r(7, row[1]));
                x.tell(0, 0, 9);
                answers(x, QUIET, r(0, row[1]));
                due("the wind stays", x.houseOf(0, 0), 9);
                x.letter(0, 0, 0, 1);
                answers(x, QUIET, r(0, row[1]));
                x.mend(0, 0, 6);
                answers(x, QUIET, r(7, 0));
            }
            asked(Boundaries::fresh, QUIET, r(0, 0), r(7, 0));
            asked(Boundaries::unheard, QUIET, r(0, 0));
        });
        promise(51, "BAD.", () -> edges(Boundaries::village, QUIET, r(0), r(0, 8)));
        promise(51, "(NONE isn't refused.)", () -> asked(Boundaries::village, QUIET, r(0, NONE), r(2, NONE), r(8, 0)));
    }

    private static void sober() {
        promise(52, "How many HOUSES KNOW a LETTER, if all DRINK is 0.", () -> {
            ReadOutAlongTheWay x = plain(1);
            answers(x, SOBER, r(0, 8));
            pouring(x, 0, 7, 9);
            due("as it is", x.whoKnows(0), 1);
            answers(x, SOBER, r(0, 8));
            due("the drink stays", x.houseOf(7, 1), 9);
            x.houses(12);
            pouring(x, 8, 11, 1);
            x.mend(0, 0, 11);
            answers(x, SOBER, r(0, 12));
            x.cold(3);
            answers(x, SOBER, r(0, 0));
            asked(Boundaries::village, SOBER, r(0, 5), r(5, 1));
        });
        promise(52, "BAD.", () -> {
            edges(Boundaries::village, SOBER, r(0), r(0, 5));
            refused(BAD, Boundaries::fresh, SOBER, r(0));
        });
    }

    private static void thirst() {
        promise(53, "By how much WHO KNOWS, HOUSES of all LETTERS together, is fewer, if DRINK of a HOUSE is 9.", () -> {
            asked(Boundaries::fresh, THIRST, r(0, 0));
            ReadOutAlongTheWay x = plain(3);
            answers(x, THIRST, r(0, 7), r(6, 1), r(7, 0));
            for (int k = 1; k < 8; k++) {
                x.letter(0, 0, 7, 3);
            }
            answers(x, THIRST, r(0, 56), r(6, 8), r(7, 0));
            x.tell(0, 1, 7);
            answers(x, THIRST, r(0, 56));
            x.tell(0, 1, 8);
            answers(x, THIRST, r(0, 0));
            x.tell(0, 1, 9);
            answers(x, THIRST, r(0, 0));
            x.tell(0, 1, 0);
            x.way(true);
            answers(x, THIRST, r(7, 0));
            due("the drink stays", x.houseOf(7, 1), 0);
            ReadOutAlongTheWay y = plain(5);
            y.tell(0, 1, 3);
            answers(y, THIRST, r(1, 6), r(0, 0));
            y.tell(0, 1, 2);
            answers(y, THIRST, r(1, 0));
            asked(Boundaries::village, THIRST, r(0, 6), r(8, 0));
        });
        promise(53, "BAD.", () -> edges(Boundaries::village, THIRST, r(0), r(0, 8)));
    }

    private static void taught() {
        promise(54, "Whether a HOUSE KNOWS a LETTER, if it knows CODE a of it: 1, 0.", () -> {
            for (int a : new int[] {0, 9}) {
                ReadOutAlongTheWay x = fresh();
                x.letter(2, a, 5, 10);
                x.letter(4, a, 5, 10);
                x.letter(5, a, 5, 10);
                x.tell(4, 0, 5);
                answers(x, TAUGHT, r(0, 0, 1), r(0, 4, 1), r(0, 5, 1), r(0, 6, 0), r(0, 7, 0));
                answers(x, TAUGHT, r(1, 3, 0), r(1, 4, 1), r(1, 5, 1), r(1, 6, 0));
                answers(x, TAUGHT, r(2, 4, 0), r(2, 5, 1));
                x.tell(4, 0, 6);
                answers(x, TAUGHT, r(0, 4, 0), r(1, 4, 0));
                due("it isn't taught", x.houseOf(4, 2), 0);
                due("so it doesn't know it", x.whoKnows(0), 32);
                x.code(4, a, true);
                answers(x, TAUGHT, r(0, 4, 0));
                due("what it knows stays", x.houseOf(4, 2), 1 << a);
            }
        });
        promise(54, "BAD.", () -> {
            edges(Boundaries::village, TAUGHT, r(0, 0), r(0, 5), r(0, 8));
            refused(BAD, Boundaries::fresh, TAUGHT, r(0, 0));
        });
    }

    private static void merry() {
        promise(55, "The HOUSE by which, if its DRINK were 0, most HOUSES KNOW a LETTER, of several the first.", () -> {
            ReadOutAlongTheWay x = plain(3);
            answers(x, MERRY, r(0, 0));
            x.tell(6, 1, 9);
            answers(x, MERRY, r(0, 6));
            x.tell(2, 1, 9);
            answers(x, MERRY, r(0, 2));
            x.tell(1, 1, 9);
            answers(x, MERRY, r(0, 1));
            x.tell(2, 1, 7);
            answers(x, MERRY, r(0, 1));
            x.mend(0, 0, 1);
            answers(x, MERRY, r(0, 0));
            x.way(true);
            answers(x, MERRY, r(0, 6));
            due("the drink stays", x.houseOf(6, 1), 9);
            asked(Boundaries::unheard, MERRY, r(0, 0));
            merryByOneDrop();
        });
        promise(55, "BAD.", () -> {
            edges(Boundaries::village, MERRY, r(0), r(0, 5));
            refused(BAD, Boundaries::fresh, MERRY, r(0));
        });
    }

    /** 3 that are drunk leave nothing out, 4 do: so it counts that a drink is just 0, not 1 more or less. */
    private static void merryByOneDrop() {
        ReadOutAlongTheWay x = plain(1);
        x.tell(0, 1, 3);
        x.tell(1, 1, 9);
        answers(x, MERRY, r(0, 1));
        x.tell(0, 1, 4);
        answers(x, MERRY, r(0, 0));
        x.houses(12);
        x.mend(0, 0, 11);
        pouring(x, 0, 9, 0);
        x.tell(10, 1, 4);
        answers(x, MERRY, r(0, 10));
        x.tell(10, 1, 3);
        x.mend(0, 0, 0);
        x.way(true);
        answers(x, MERRY, r(0, 0));
    }

    private static void common() {
        promise(56, "HOUSES (bits) that KNOW two LETTERS both (they may be the same).", () -> {
            asked(Boundaries::village, COMMON, r(0, 1, 43), r(1, 0, 43), r(0, 0, 43), r(5, 5, 4), r(0, 5, 0), r(4, 5, 0));
            asked(Boundaries::unheard, COMMON, r(0, 0, 0));
            ReadOutAlongTheWay x = plain(10);
            x.houses(12);
            x.letter(0, 0, 11, 10);
            answers(x, COMMON, r(0, 1, 255), r(1, 1, 4095));
            x.tell(7, 0, 6);
            answers(x, COMMON, r(0, 1, 127), r(1, 1, 3967));
        });
        promise(56, "BAD.", () -> {
            edges(Boundaries::village, COMMON, r(0, 0), r(0, 5), r(0, 5));
            refused(BAD, Boundaries::fresh, COMMON, r(0, 0));
        });
    }

    private static void doubt() {
        promise(57, "HOUSES (bits) at which a LETTER is read and that don't KNOW it.", () -> {
            asked(Boundaries::unheard, DOUBT, r(0, 255));
            asked(Boundaries::village, DOUBT, r(0, 20), r(3, 0), r(5, 3));
            ReadOutAlongTheWay x = plain(10);
            answers(x, DOUBT, r(0, 0));
            windy(x, 0, 7, 5);
            answers(x, DOUBT, r(0, 0));
            windy(x, 0, 7, 6);
            answers(x, DOUBT, r(0, 255));
            x.mend(0, 0, 2);
            answers(x, DOUBT, r(0, 7));
            x.way(true);
            answers(x, DOUBT, r(0, 252));
        });
        promise(57, "BAD.", () -> {
            edges(Boundaries::village, DOUBT, r(0), r(0, 5));
            refused(BAD, Boundaries::fresh, DOUBT, r(0));
        });
    }

    private static void ofKind() {
        promise(58, "How many LETTERS are of just a KIND.", () -> {
            asked(Boundaries::fresh, OF_KIND, r(0, 0), r(5, 0));
            ReadOutAlongTheWay x = fresh();
            for (int kind = 1; kind <= 5; kind++) {
                x.letter(kind, 0, 0, 1);
            }
            answers(x, OF_KIND, r(0, 0), r(1, 1), r(2, 1), r(3, 1), r(4, 1), r(5, 1));
            for (int k = 0; k < 3; k++) {
                x.letter(3, 0, 0, 1);
            }
            answers(x, OF_KIND, r(0, 0), r(1, 1), r(3, 4));
            x.round(true);
            answers(x, OF_KIND, r(3, 0));
            for (int k = 0; k < 8; k++) {
                x.letter(0, 0, 0, 1);
            }
            answers(x, OF_KIND, r(0, 8), r(1, 0));
        });
        promise(58, "BAD.", () -> edges(Boundaries::village, OF_KIND, r(0), r(0, 5)));
    }
}
