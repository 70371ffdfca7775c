import java.util.function.Supplier;

/** Shelves and rows, sentence by sentence: promises 2 to 8 and the Terms of them. */
final class ShelfBoundaries extends Boundaries {
    private static final Call ROW = (x, v) -> x.row(v[0], v[1], v[2]);
    private static final Call SET = (x, v) -> x.set(v[0], v[1], 9);
    private static final Call COPY = (x, v) -> x.copy(v[0], v[1], v[2], v[3], v[4]);
    private static final Call ELEMENT = (x, v) -> x.element(v[0], v[1]);
    private static final Call HOLDS = (x, v) -> x.holds(v[0]);
    private static final Call SHOW = (x, v) -> x.show(v[0], v[1]);
    private static final Call SAYS = (x, v) -> x.says(v[0], v[1]);

    private ShelfBoundaries() {
    }

    static void all() {
        ofShelves();
        ofRows();
        row();
        set();
        copy();
        badCopies();
        elementAndHolds();
        show();
        says();
        badSays();
    }

    // ---- the Terms

    private static void ofShelves() {
        terms("2, 6, 7", "SHELVES 0 to 7 hold NOTHING (at first), a ROW, or a LETTER.", () -> {
            ReadOutAlongTheWay x = plain(5);
            for (int s = 0; s < 8; s++) {
                answers(x, HOLDS, r(s, NONE));
            }
            answers(x, ROW, r(0, 3, 1, 1), r(7, 1, 1, 1), r(-1, 3, 1, BAD), r(8, 3, 1, BAD));
            answers(x, HOLDS, r(0, 3), r(7, 1), r(1, NONE), r(6, NONE));
            answers(x, SHOW, r(0, 0, 1), r(7, 0, 1), r(-1, 0, BAD), r(8, 0, BAD));
            answers(x, HOLDS, r(0, 10), r(7, 10), r(1, NONE), r(6, NONE));
            answers(x, SHOW, r(0, NONE, 1), r(7, NONE, 1), r(-1, NONE, BAD), r(8, NONE, BAD));
            answers(x, HOLDS, r(0, NONE), r(7, NONE));
            status(x, 12, 6);
        });
    }

    private static void ofRows() {
        terms("2, 6", "A ROW has a SORT (0 bytes, 1 shorts, 2 ints, 3 longs, 4 booleans)", () -> {
            ReadOutAlongTheWay x = fresh();
            answers(x, ROW, r(0, 0, 1, 1), r(1, 1, 1, 1), r(2, 2, 1, 1), r(3, 3, 1, 1), r(4, 4, 1, 1), r(5, -1, 1, BAD), r(5, 5, 1, BAD));
            answers(x, HOLDS, r(0, 0), r(1, 1), r(2, 2), r(3, 3), r(4, 4), r(5, NONE));
            long[] greatest = {Byte.MAX_VALUE, Short.MAX_VALUE, Integer.MAX_VALUE, Long.MAX_VALUE, 1};
            long[] least = {Byte.MIN_VALUE, Short.MIN_VALUE, Integer.MIN_VALUE, Long.MIN_VALUE, 0};
            for (int sort = 0; sort <= 4; sort++) {
                x.set(sort, 0, greatest[sort]);
                due("greatest of sort " + sort, x.element(sort, 0), greatest[sort]);
                x.set(sort, 0, least[sort]);
                due("least of sort " + sort, x.element(sort, 0), least[sort]);
            }
        });
        terms("2, 3, 5", "and 0 to 40 elements (0, or not so, at first);", () -> {
            for (int sort = 0; sort <= 4; sort++) {
                ReadOutAlongTheWay x = fresh();
                answers(x, ROW, r(0, sort, 40, 1), r(1, sort, 0, 1), r(2, sort, 41, BAD), r(2, sort, -1, BAD));
                for (int i = 0; i < 40; i++) {
                    due("at first " + i, x.element(0, i), 0);
                }
                answers(x, SET, r(0, 39, 1), r(0, 40, BAD), r(1, 0, BAD), r(2, 0, NOTHING));
                due("the last", x.element(0, 39), sort == 4 ? 1 : 9);
            }
        });
        terms("3, 5", "what is put in keeps its lowest bits (of booleans: whether it is not 0);", () -> {
            long[][] sortPutKept = {{0, 127, 127}, {0, 128, -128}, {0, -128, -128}, {0, -129, 127}, {0, 255, -1}, {0, 256, 0}, {0, Long.MAX_VALUE, -1},
                {0, Long.MIN_VALUE, 0}, {1, 32767, 32767}, {1, 32768, -32768}, {1, -32768, -32768}, {1, -32769, 32767}, {1, 65536, 0},
                {2, 2147483647L, MAX}, {2, 2147483648L, MIN}, {2, -2147483648L, MIN}, {2, -2147483649L, MAX}, {2, 1L << 32, 0},
                {3, Long.MAX_VALUE, Long.MAX_VALUE}, {3, Long.MIN_VALUE, Long.MIN_VALUE}, {3, 1L << 32, 1L << 32},
                {4, 0, 0}, {4, 1, 1}, {4, 2, 1}, {4, -1, 1}, {4, 256, 1}, {4, 1L << 32, 1}, {4, Long.MIN_VALUE, 1}};
            for (long[] row : sortPutKept) {
                ReadOutAlongTheWay x = fresh();
                x.row(3, (int) row[0], 3);
                due("set", x.set(3, 1, row[1]), 1);
                due("sort " + row[0] + " keeps of " + row[1], x.element(3, 1), row[2]);
                due("the one ahead", x.element(3, 0), 0);
                due("the one behind", x.element(3, 2), 0);
            }
        });
        terms("5, 33, 59", "told they are numbers (1, 0).", () -> {
            ReadOutAlongTheWay x = plain(1);
            x.row(0, 4, 2);
            x.set(0, 0, -7);
            due("so", x.element(0, 0), 1);
            due("not so", x.element(0, 1), 0);
            due("one word is heard", x.lengths(0, 1, 0, 1), 1);
            due("one letter is known", x.judge(0, 1), NONE);
            due("it isn't so", x.judge(0, 2), 1);
            x.set(0, 0, 0);
            due("not so any more", x.element(0, 0), 0);
        });
    }

    // ---- promises 2 and 3

    private static void row() {
        promise(2, "SHELF s holds a new ROW: 1.", () -> {
            ReadOutAlongTheWay x = village();
            answers(x, ROW, r(0, 0, 6, 1), r(1, 3, 40, 1));
            answers(x, ELEMENT, r(0, 0, 0), r(0, 5, 0));
            x.set(1, 39, 5);
            answers(x, ROW, r(1, 3, 39, 1), r(1, 3, 40, 1));
            answers(x, ELEMENT, r(1, 39, 0));
            answers(x, ROW, r(3, 4, 1, 1), r(7, 1, 0, 1));
            answers(x, HOLDS, r(3, 4), r(7, 1), r(6, 15));
            due("another row stays", x.element(2, 3), Long.MAX_VALUE);
            status(x, 9, 7);
        });
        promise(2, "BAD.", () -> {
            edges(Boundaries::village, ROW, r(0, 0, 0), r(0, 7), r(0, 4), r(0, 40));
            refused(BAD, Boundaries::village, ROW, r(3, 5, 0), r(3, 0, 41), r(5, -1, 0), r(8, 5, 41));
        });
    }

    private static void set() {
        promise(3, "Element i of the ROW in SHELF s becomes v: 1.", () -> {
            ReadOutAlongTheWay x = village();
            answers(x, SET, r(0, 0, 1), r(0, 5, 1), r(1, 2, 1));
            answers(x, ELEMENT, r(0, 0, 9), r(0, 1, 2), r(0, 4, 5), r(0, 5, 9), r(1, 0, 0), r(1, 2, 9));
        });
        promise(3, "BAD SHELF;", () -> {
            allowed(Boundaries::shelved, SET, r(0, 0), r(7, 0));
            refused(BAD, Boundaries::shelved, SET, r(-1, 0), r(8, 0), r(MIN, 0), r(MAX, 0));
        });
        promise(3, "OTHER;", () -> refused(OTHER, Boundaries::shelved, SET, r(3, 0), r(6, 0), r(3, -1), r(3, 40), r(6, MAX)));
        promise(3, "NOTHING;", () -> {
            refused(NOTHING, Boundaries::shelved, SET, r(5, 0), r(5, -1), r(5, 40));
            refused(NOTHING, Boundaries::fresh, SET, r(0, 0), r(7, 0));
        });
        promise(3, "BAD i.", () -> {
            edges(Boundaries::village, (x, v) -> x.set(0, v[0], 9), r(0), r(0, 5));
            edges(Boundaries::village, (x, v) -> x.set(1, v[0], 9), r(0), r(0, 2));
            Supplier<ReadOutAlongTheWay> empty = () -> {
                ReadOutAlongTheWay x = village();
                x.row(0, 0, 0);
                return x;
            };
            refused(BAD, empty, SET, r(0, 0), r(0, -1));
        });
    }

    // ---- promise 4

    private static void copied(int p, int q, int i, int j, int n, long... want) {
        ReadOutAlongTheWay x = village();
        due("copy", x.copy(p, q, i, j, n), n);
        for (int k = 0; k < want.length; k++) {
            due(p + " " + q + " " + i + " " + j + " " + n + ", element " + k, x.element(q, k), want[k]);
        }
        status(x, 12, 1);
    }

    private static void copy() {
        promise(4, "n elements of the ROW in SHELF p from place i on come to places j on of that in q (as they were): n.", () -> {
            copied(0, 1, 0, 0, 3, 1, 2, 3);
            copied(0, 1, 3, 0, 3, 4, 5, 6);
            copied(0, 1, 5, 2, 1, 0, 0, 6);
            copied(1, 0, 0, 3, 3, 1, 2, 3, 0, 0, 0);
            copied(0, 0, 0, 1, 5, 1, 1, 2, 3, 4, 5);
            copied(0, 0, 1, 0, 5, 2, 3, 4, 5, 6, 6);
            copied(0, 0, 0, 0, 6, 1, 2, 3, 4, 5, 6);
            copied(0, 1, 0, 0, 0, 0, 0, 0);
            copied(0, 1, 6, 3, 0, 0, 0, 0);
            ReadOutAlongTheWay x = village();
            x.row(0, 3, 40);
            x.row(1, 3, 40);
            x.set(0, 0, Long.MIN_VALUE);
            x.set(0, 39, Long.MAX_VALUE);
            due("all 40", x.copy(0, 1, 0, 0, 40), 40);
            due("the first", x.element(1, 0), Long.MIN_VALUE);
            due("the last", x.element(1, 39), Long.MAX_VALUE);
            due("those it came from stay", x.element(0, 39), Long.MAX_VALUE);
        });
    }

    private static void badCopies() {
        promise(4, "BAD SHELVES;", () -> {
            allowed(Boundaries::shelved, COPY, r(0, 7, 0, 0, 9), r(7, 0, 0, 0, 9));
            refused(BAD, Boundaries::shelved, COPY, r(-1, 0, 0, 0, 0), r(8, 0, 0, 0, 0), r(0, -1, 0, 0, 0), r(0, 8, 0, 0, 0), r(MIN, MAX, 0, 0, 0));
            refused(BAD, Boundaries::shelved, COPY, r(3, 8, 0, 0, 0), r(-1, 3, 0, 0, 0), r(5, 8, 0, 0, 0), r(-1, 5, 0, 0, 0));
        });
        promise(4, "OTHER (also ROWS of two SORTS, if both hold something);", () -> {
            refused(OTHER, Boundaries::village, COPY, r(3, 0, 0, 0, 0), r(0, 3, 0, 0, 0), r(3, 6, 0, 0, 0), r(3, 3, 0, 0, 0));
            refused(OTHER, Boundaries::village, COPY, r(3, 5, 0, 0, 0), r(5, 3, 0, 0, 0), r(3, 0, -1, -1, -1), r(0, 3, 99, 99, 99));
            refused(OTHER, Boundaries::village, COPY, r(0, 2, 0, 0, 1), r(2, 0, 0, 0, 1), r(0, 4, 0, 0, 0), r(4, 2, -1, -1, -1), r(0, 2, 9, 9, 9));
            allowed(Boundaries::village, COPY, r(0, 1, 0, 0, 1), r(4, 4, 0, 1, 1));
        });
        promise(4, "NOTHING;", () -> {
            refused(NOTHING, Boundaries::village, COPY, r(0, 5, 0, 0, 0), r(5, 0, 0, 0, 0), r(5, 7, 0, 0, 0), r(5, 5, 0, 0, 0));
            refused(NOTHING, Boundaries::village, COPY, r(2, 5, -1, -1, -1), r(5, 4, 99, 99, 99), r(5, 7, MAX, MIN, -1));
        });
        promise(4, "BAD the others.", () -> {
            edges(Boundaries::village, (x, v) -> x.copy(0, 1, v[0], v[1], v[2]), r(0, 0, 1), r(0, 5), r(0, 2), r(0, 3));
            edges(Boundaries::village, (x, v) -> x.copy(0, 1, v[0], v[1], v[2]), r(0, 0, 0), r(0, 6), r(0, 3), r(0, 3));
            edges(Boundaries::village, (x, v) -> x.copy(1, 0, v[0], v[1], v[2]), r(0, 0, 2), r(0, 1), r(0, 4), r(0, 3));
            refused(BAD, Boundaries::village, COPY, r(0, 0, MAX, 0, MAX), r(0, 0, 0, MAX, 1), r(0, 0, 1, 1, MAX), r(0, 0, MIN, MIN, MIN), r(0, 0, 0, 0, 7));
        });
    }

    // ---- promises 5 to 8

    private static void elementAndHolds() {
        promise(5, "Element i of the ROW;", () -> asked(Boundaries::village, ELEMENT, r(0, 0, 1), r(0, 5, 6), r(1, 2, 0), r(4, 1, 0)));
        promise(5, "0: none, no ROW (nothing is refused).", () -> {
            asked(Boundaries::village, ELEMENT, r(0, -1, 0), r(0, 6, 0), r(0, MAX, 0), r(0, MIN, 0), r(3, 0, 0), r(5, 0, 0), r(-1, 0, 0), r(8, 0, 0));
            asked(Boundaries::village, ELEMENT, r(MAX, 0, 0), r(MIN, MIN, 0));
            ReadOutAlongTheWay x = village();
            x.row(0, 0, 3);
            x.row(0, 0, 2);
            answers(x, ELEMENT, r(0, 2, 0));
            x.set(0, 0, 5);
            x.show(0, 0);
            answers(x, ELEMENT, r(0, 0, 0));
            x.show(0, NONE);
            answers(x, ELEMENT, r(0, 0, 0));
        });
        promise(6, "What SHELF s holds: NONE NOTHING, no SHELF;", () -> {
            asked(Boundaries::village, HOLDS, r(5, NONE), r(7, NONE), r(-1, NONE), r(8, NONE), r(MIN, NONE), r(MAX, NONE));
            asked(Boundaries::fresh, HOLDS, r(0, NONE), r(7, NONE));
        });
        promise(6, "0 to 4 a ROW by its SORT;", () -> {
            asked(Boundaries::village, HOLDS, r(0, 0), r(1, 0), r(2, 3), r(4, 4));
            ReadOutAlongTheWay x = fresh();
            for (int sort = 0; sort <= 4; sort++) {
                x.row(7, sort, 0);
                answers(x, HOLDS, r(7, sort));
            }
        });
        promise(6, "10 and the number of a LETTER.", () -> {
            asked(Boundaries::village, HOLDS, r(3, 12), r(6, 15));
            ReadOutAlongTheWay x = fresh();
            for (int k = 0; k < 8; k++) {
                x.letter(0, 0, 0, 1);
                x.show(7 - k, k);
                answers(x, HOLDS, r(7 - k, 10 + k));
            }
        });
    }

    private static void show() {
        promise(7, "SHELF s holds a LETTER, or NOTHING (letter NONE): 1.", () -> {
            ReadOutAlongTheWay x = village();
            answers(x, SHOW, r(7, 0, 1), r(0, 5, 1), r(3, NONE, 1), r(2, NONE, 1), r(5, NONE, 1));
            answers(x, HOLDS, r(7, 10), r(0, 15), r(3, NONE), r(2, NONE), r(5, NONE), r(1, 0));
            answers(x, ELEMENT, r(0, 0, 0), r(2, 3, 0));
            status(x, 9, 5);
            answers(x, SHOW, r(7, 5, 1), r(6, 5, 1));
            answers(x, HOLDS, r(7, 15), r(6, 15));
        });
        promise(7, "BAD.", () -> {
            edges(Boundaries::village, SHOW, r(0, 0), r(0, 7), r(NONE, 5));
            refused(BAD, Boundaries::village, SHOW, r(8, NONE), r(-1, NONE), r(3, 6), r(3, -2));
            refused(BAD, Boundaries::fresh, SHOW, r(0, 0));
        });
    }

    /** A letter of each kind in the shelf of its number, so told that house 0 hears each of them otherwise. */
    private static ReadOutAlongTheWay shown() {
        ReadOutAlongTheWay x = fresh();
        x.letter(0, 0, 3, 11);
        x.letter(1, 9, 3, 12);
        x.letter(2, 3, 3, 13);
        x.letter(3, 4, 3, 20);
        x.letter(4, 5, 1, 15);
        x.letter(5, 6, 0, 16);
        x.code(0, 3, true);
        x.code(0, 5, true);
        x.tell(0, 0, 9);
        for (int k = 0; k <= 5; k++) {
            x.show(k, k);
        }
        x.row(6, 2, 3);
        return x;
    }

    private static void says() {
        promise(8, "What the LETTER in SHELF s, taken for one of a KIND, says: LETTER its a;", () ->
            asked(ShelfBoundaries::shown, SAYS, r(0, 0, 0), r(1, 0, 9), r(2, 0, 3), r(3, 0, 4), r(4, 0, 5), r(5, 0, 6)));
        promise(8, "SCOLDING, PLAINT, DRAINS, LOVE, HONEYED what is HEARD of it at HOUSE 0, by its own KIND.", () -> {
            asked(ShelfBoundaries::shown, SAYS, r(1, 1, 8), r(2, 2, 4), r(3, 1, 20), r(3, 3, 20), r(4, 2, 6), r(4, 4, 6), r(5, 5, 16));
            ReadOutAlongTheWay x = shown();
            x.cold(9);
            answers(x, SAYS, r(1, 1, 5), r(3, 1, 17), r(3, 3, 17));
            x.mend(4, 0, 2);
            x.mend(5, 0, 1);
            answers(x, SAYS, r(4, 2, 0), r(4, 4, 0), r(5, 5, 0));
            x.way(true);
            answers(x, SAYS, r(1, 1, 0), r(3, 3, 0), r(1, 0, 9));
        });
    }

    private static void badSays() {
        promise(8, "BAD SHELF, KIND;", () -> {
            Supplier<ReadOutAlongTheWay> full = () -> {
                ReadOutAlongTheWay x = shown();
                x.show(6, 5);
                x.show(7, 5);
                return x;
            };
            edges(full, SAYS, r(0, 0), r(0, 7));
            edges(full, (x, v) -> x.says(7, v[0]), r(0), r(0, 5));
            refused(BAD, ShelfBoundaries::shown, SAYS, r(6, -1), r(6, 6), r(7, -1), r(7, 6), r(8, 6));
        });
        promise(8, "OTHER (also if it is of no such KIND nor of one under it);", () -> {
            refused(OTHER, ShelfBoundaries::shown, SAYS, r(6, 0), r(6, 5));
            for (int kind = 1; kind <= 5; kind++) {
                refused(OTHER, ShelfBoundaries::shown, SAYS, r(0, kind));
            }
            refused(OTHER, ShelfBoundaries::shown, SAYS, r(1, 2), r(1, 3), r(1, 5), r(2, 1), r(2, 4), r(3, 2), r(3, 4), r(4, 1), r(4, 3), r(5, 1), r(5, 4));
        });
        promise(8, "NOTHING.", () -> {
            refused(NOTHING, ShelfBoundaries::shown, SAYS, r(7, 0), r(7, 5));
            ReadOutAlongTheWay x = shown();
            x.round(true);
            answers(x, SAYS, r(0, 0, NOTHING), r(5, 5, NOTHING), r(6, 0, OTHER));
        });
    }
}
