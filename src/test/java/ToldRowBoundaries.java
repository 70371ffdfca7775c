import java.util.function.Supplier;

/** What fits a told row, sentence by sentence: promises 33 to 36 and 59, and the Terms of them. */
final class ToldRowBoundaries extends Boundaries {
    private static final Call LENGTHS = (x, v) -> x.lengths(v[0], v[1], v[2], v[3]);
    private static final Call FITS = (x, v) -> x.fits(v[0], v[1], v[2], v[3]);
    private static final Call ASK = (x, v) -> x.ask(v[0], v[1], v[2]);
    private static final Call WINDS = (x, v) -> x.winds(v[0], v[1], v[2]);
    private static final Call JUDGE = (x, v) -> x.judge(v[0], v[1]);

    private ToldRowBoundaries() {
    }

    static void all() {
        ofLengths();
        ofKindsAndTos();
        ofAsk();
        ofWinds();
        ofJudge();
        lengths();
        fits();
        ask();
        winds();
        judge();
    }

    private static ReadOutAlongTheWay fullShelved() {
        ReadOutAlongTheWay x = fullVillage();
        x.houses(12);
        x.row(0, 2, 40);
        x.row(7, 2, 40);
        return x;
    }

    /** Shelf 0 holds a row of just these. */
    private static void told(ReadOutAlongTheWay x, long... values) {
        Check.fill(x, 0, values);
    }

    private static void lengths(ReadOutAlongTheWay x, int n, int many, int least, int greatest) {
        answers(x, LENGTHS, r(0, n, 0, 0, many), r(0, n, 0, 1, least), r(0, n, 0, 2, greatest));
    }

    // ---- the Terms

    private static void ofLengths() {
        terms("33", "By a told ROW of what was HEARD of a LETTER at HOUSES 0, 1, ..: LENGTHS that fit (1 to 40): how many; the least; the greatest.",
            () -> {
                ReadOutAlongTheWay x = plain(10);
                x.tell(0, 0, 9);
                told(x, 0, 9);
                lengths(x, 0, 40, 1, 40);
                lengths(x, 1, 9, 1, 9);
                lengths(x, 2, 1, 9, 9);
                told(x, 0, 10);
                lengths(x, 2, 0, NONE, NONE);
                told(x, 1, 10);
                lengths(x, 2, 1, 10, 10);
                told(x, 31);
                lengths(x, 1, 1, 40, 40);
                told(x, 32);
                lengths(x, 1, 0, NONE, NONE);
                told(x, -1);
                lengths(x, 1, 0, NONE, NONE);
                told(x, 1L << 32);
                lengths(x, 1, 0, NONE, NONE);
                answers(x, FITS, r(0, 1, 0, 0, 0), r(0, 1, 0, 1, 0));
                x.tell(0, 0, 0);
                told(x, 1, 1, 1, 1, 1, 1, 1, 1);
                lengths(x, 8, 1, 1, 1);
                told(x, 1, 1, 1, 1, 1, 1, 1, 2);
                lengths(x, 7, 1, 1, 1);
                lengths(x, 8, 0, NONE, NONE);
                told(x, 0);
                lengths(x, 1, 0, NONE, NONE);
                due("the length stays", x.letterOf(0, 3), 10);
            });
    }

    private static void ofKindsAndTos() {
        terms("34", "KINDS (bits) that fit.", () -> {
            Call kinds = (x, v) -> {
                told(x, v[0]);
                return x.fits(0, 1, 0, 0);
            };
            ReadOutAlongTheWay x = fresh();
            x.letter(0, 3, 7, 10);
            answers(x, kinds, r(10, 0b001011), r(0, 0b110100), r(9, 0), r(11, 0), r(-1, 0));
            x.tell(0, 0, 2);
            answers(x, kinds, r(8, 0b000001), r(9, 0b000010), r(10, 0b001000), r(0, 0b110100));
            x.code(0, 3, true);
            answers(x, kinds, r(8, 0b000101), r(0, 0b110000));
            x.mend(0, 0, 1);
            answers(x, kinds, r(8, 0b010101), r(0, 0b100000));
            x.mend(0, 0, 0);
            answers(x, kinds, r(8, 0b010101), r(10, 0b101000), r(0, 0));
            due("by none", x.fits(0, 0, 0, 0), 63);
            due("the kind stays", x.letterOf(0, 0), 0);
        });
        terms("34", "TOS (bits of HOUSES).", () -> {
            ReadOutAlongTheWay x = plain(10);
            told(x, 10, 10, 10, 10, 10, 10, 10, 10);
            for (int n = 0; n <= 8; n++) {
                answers(x, FITS, r(0, n, 0, 1, n == 0 ? 255 : 255 & -(1 << n - 1)));
            }
            told(x, 10, 0, 10);
            answers(x, FITS, r(0, 2, 0, 1, 1), r(0, 3, 0, 1, 0));
            told(x, 0);
            answers(x, FITS, r(0, 1, 0, 1, 0));
            x.way(true);
            answers(x, FITS, r(0, 1, 0, 1, 254));
            told(x, 10);
            answers(x, FITS, r(0, 1, 0, 1, 1));
            x.houses(12);
            answers(x, FITS, r(0, 0, 0, 1, 4095), r(0, 1, 0, 1, 1));
            due("to stays", x.letterOf(0, 2), 7);
        });
    }

    private static void ofAsk() {
        terms("35", "ASK: the HOUSE by what is HEARD at which LENGTHS that fit are parted best: in the worst case fewest are left, of several the first;"
            + " NONE: fewer than two.", () -> {
                ReadOutAlongTheWay x = plain(10);
                told(x, 0);
                answers(x, ASK, r(0, 0, 0, 0));
                windy(x, 0, 7, 9);
                answers(x, ASK, r(0, 0, 0, 0), r(0, 1, 0, 0));
                x.tell(7, 0, 0);
                answers(x, ASK, r(0, 0, 0, 7), r(0, 1, 0, 7));
                x.tell(7, 0, 4);
                x.tell(3, 0, 5);
                answers(x, ASK, r(0, 0, 0, 7), r(0, 1, 0, 7));
                x.tell(3, 0, 4);
                answers(x, ASK, r(0, 0, 0, 3), r(0, 1, 0, 3));
                x.tell(0, 0, 2);
                answers(x, ASK, r(0, 0, 0, 0), r(0, 1, 0, 0));
                x.tell(5, 0, 1);
                answers(x, ASK, r(0, 0, 0, 5), r(0, 1, 0, 5));
                x.tell(0, 0, 1);
                answers(x, ASK, r(0, 0, 0, 0), r(0, 1, 0, NONE));
                told(x, 40);
                answers(x, ASK, r(0, 1, 0, NONE));
                due("the length stays", x.letterOf(0, 3), 10);
                askOfThoseThatFit();
            });
    }

    /** 1 and 2 fit, which neither house parts, though the second parts more of all lengths. */
    private static void askOfThoseThatFit() {
        ReadOutAlongTheWay x = plain(10);
        x.mend(0, 0, 1);
        x.tell(0, 0, 9);
        x.tell(1, 0, 2);
        told(x, 0, 0);
        answers(x, ASK, r(0, 0, 0, 1), r(0, 2, 0, 0));
        x.houses(12);
        answers(x, ASK, r(0, 0, 0, 1), r(0, 2, 0, 0));
        ReadOutAlongTheWay y = plain(10);
        y.mend(0, 0, 0);
        y.way(true);
        told(y, 0);
        answers(y, ASK, r(0, 0, 0, 0));
        windy(y, 0, 7, 9);
        answers(y, ASK, r(0, 0, 0, 0));
    }

    private static void ofWinds() {
        terms("36", "By a told ROW of what was HEARD of LETTERS 0, 1, .. at one HOUSE: WINDS (bits 0 to 9) of it that fit.", () -> {
            ReadOutAlongTheWay x = plain(10);
            for (int wind = 0; wind < 10; wind++) {
                told(x, 10 - wind);
                answers(x, WINDS, r(0, 0, 3, 1023), r(0, 1, 0, 1 << wind), r(0, 1, 7, 1 << wind));
            }
            told(x, 0);
            answers(x, WINDS, r(0, 1, 0, 0));
            told(x, 11);
            answers(x, WINDS, r(0, 1, 0, 0));
            told(x, 10 + (1L << 32));
            answers(x, WINDS, r(0, 1, 0, 0));
            x.mend(0, 1, 5);
            x.letter(1, 0, 7, 10);
            told(x, 0, 6);
            answers(x, WINDS, r(0, 1, 0, 992), r(0, 2, 0, 768));
            told(x, 0, 8);
            answers(x, WINDS, r(0, 2, 0, 32));
            told(x, 1, 8);
            answers(x, WINDS, r(0, 2, 0, 16));
            x.mend(0, 0, 6);
            told(x, 0, 10);
            answers(x, WINDS, r(0, 1, 7, 1023), r(0, 2, 7, 3));
            told(x, 1);
            answers(x, WINDS, r(0, 1, 7, 0));
            due("the wind stays", x.houseOf(7, 0), 0);
        });
    }

    private static void ofJudge() {
        terms("59", "A told ROUND: a ROW of what each HOUSE KNOWS (bits), by numbers: WRONG: the first that isn't so"
            + " (more than HOUSES: at the first too many); NONE.", () -> {
                ReadOutAlongTheWay x = plain(10);
                x.letter(0, 0, 3, 10);
                told(x, 3, 3, 3, 3, 1, 1, 1, 1, 0, 0);
                answers(x, JUDGE, r(0, 0, NONE), r(0, 1, NONE), r(0, 7, NONE), r(0, 8, NONE), r(0, 9, 8), r(0, 10, 8));
                for (int house = 0; house < 8; house++) {
                    x.set(0, house, 2);
                    answers(x, JUDGE, r(0, house, NONE), r(0, house + 1, house), r(0, 10, house));
                    x.set(0, house, house < 4 ? 3 : 1);
                }
                x.set(0, 6, 0);
                x.set(0, 2, 0);
                answers(x, JUDGE, r(0, 8, 2), r(0, 2, NONE));
                x.houses(12);
                told(x, 3, 3, 3, 3, 1, 1, 1, 1, 0, 0, 0, 0, 0);
                answers(x, JUDGE, r(0, 12, NONE), r(0, 13, 12));
                told(x, 3 + (1L << 32));
                answers(x, JUDGE, r(0, 1, 0));
                told(x, -1);
                answers(x, JUDGE, r(0, 1, 0));
            });
    }

    // ---- promises 33 to 36 and 59

    /** A row of none in shelf 0, of three in 1, of four in 2: as many elements as asked for, and one fewer. */
    private static void fewer(Call call, int greatest) {
        Supplier<ReadOutAlongTheWay> empty = () -> {
            ReadOutAlongTheWay x = village();
            x.row(0, 0, 0);
            return x;
        };
        allowed(empty, call, r(0, 0, 0, 0), r(1, 3, 0, 0), r(2, 4, 0, 0));
        refused(BAD, empty, call, r(0, 1, 0, 0), r(1, 4, 0, 0), r(2, 5, 0, 0), r(1, greatest, 0, 0));
    }

    private static void lengths() {
        promise(33, "LENGTHS of a LETTER by the first n elements (0 to 12, no more than HOUSES) of the ROW in SHELF s: how many (what 0),"
            + " the least (1; NONE), the greatest (2; NONE).", () -> {
                asked(Boundaries::shelved, LENGTHS, r(0, 0, 0, 0, 40), r(0, 0, 0, 1, 1), r(0, 0, 0, 2, 40));
                asked(Boundaries::shelved, LENGTHS, r(7, 9, 2, 0, 3), r(7, 9, 2, 1, 1), r(7, 9, 2, 2, 3), r(7, 9, 5, 0, 0), r(7, 9, 5, 1, NONE),
                    r(7, 9, 5, 2, NONE));
                asked(ToldRowBoundaries::fullShelved, LENGTHS, r(7, 12, 2, 0, 3), r(7, 12, 2, 1, 1), r(7, 12, 2, 2, 3));
            });
        promise(33, "BAD SHELF, n, letter, what;", () -> {
            edges(Boundaries::shelved, LENGTHS, r(0, 0, 0, 0), r(0, 7), r(0, 9), r(0, 5), r(0, 2));
            edges(ToldRowBoundaries::fullShelved, (x, v) -> x.lengths(0, v[0], v[1], 0), r(0, 0), r(0, 12), r(0, 7));
            refused(BAD, Boundaries::shelved, LENGTHS, r(3, 10, 0, 0), r(3, 0, 6, 0), r(3, 0, 0, 3), r(5, -1, 0, 0), r(5, 0, -1, 0), r(5, 0, 0, -1));
            refused(BAD, Boundaries::fresh, LENGTHS, r(0, 0, 0, 0));
        });
        promise(33, "OTHER;", () -> refused(OTHER, Boundaries::shelved, LENGTHS, r(3, 0, 0, 0), r(6, 9, 5, 2)));
        promise(33, "NOTHING;", () -> refused(NOTHING, Boundaries::shelved, LENGTHS, r(5, 0, 0, 0), r(5, 9, 5, 2)));
        promise(33, "BAD: fewer elements.", () -> fewer(LENGTHS, 9));
        promise(33, "(NONE isn't refused.)", () -> asked(Boundaries::shelved, LENGTHS, r(0, 3, 5, 1, NONE), r(0, 3, 5, 2, NONE)));
    }

    private static void fits() {
        promise(34, "KINDS (what 0), TOS (1) of a LETTER likewise.", () -> {
            asked(Boundaries::shelved, FITS, r(0, 0, 0, 0, 63), r(0, 0, 0, 1, 511), r(0, 1, 0, 0, 52), r(0, 1, 0, 1, 0));
            asked(Boundaries::shelved, FITS, r(7, 9, 5, 0, 20), r(7, 9, 5, 1, 0), r(7, 2, 5, 1, 508));
            asked(ToldRowBoundaries::fullShelved, FITS, r(0, 0, 0, 1, 4095), r(0, 12, 7, 0, 31), r(0, 8, 6, 0, 52), r(0, 12, 6, 0, 0));
        });
        promise(34, "BAD SHELF, n, letter, what;", () -> {
            edges(Boundaries::shelved, FITS, r(0, 0, 0, 0), r(0, 7), r(0, 9), r(0, 5), r(0, 1));
            edges(Boundaries::shelved, FITS, r(0, 0, 0, 1), r(0, 7), r(0, 9), r(0, 5), r(0, 1));
            edges(ToldRowBoundaries::fullShelved, (x, v) -> x.fits(0, v[0], v[1], 1), r(0, 0), r(0, 12), r(0, 7));
            refused(BAD, Boundaries::shelved, FITS, r(3, 10, 0, 0), r(3, 0, 6, 0), r(3, 0, 0, 2), r(5, -1, 0, 0), r(5, 0, -1, 0), r(5, 0, 0, -1));
            refused(BAD, Boundaries::fresh, FITS, r(0, 0, 0, 0));
        });
        promise(34, "OTHER;", () -> refused(OTHER, Boundaries::shelved, FITS, r(3, 0, 0, 0), r(6, 9, 5, 1)));
        promise(34, "NOTHING;", () -> refused(NOTHING, Boundaries::shelved, FITS, r(5, 0, 0, 0), r(5, 9, 5, 1)));
        promise(34, "BAD: fewer elements.", () -> {
            fewer(FITS, 9);
            fewer((x, v) -> x.fits(v[0], v[1], v[2], 1), 9);
        });
    }

    private static void ask() {
        promise(35, "ASK likewise; NONE.", () -> {
            asked(Boundaries::shelved, ASK, r(0, 0, 0, 0), r(0, 0, 2, 6), r(0, 3, 2, 6), r(0, 0, 5, 2), r(0, 2, 5, 2), r(0, 3, 5, NONE));
            asked(ToldRowBoundaries::fullShelved, ASK, r(7, 0, 6, 8), r(7, 8, 6, 8), r(7, 9, 6, NONE), r(7, 12, 6, NONE));
        });
        promise(35, "BAD SHELF, n, letter;", () -> {
            edges(Boundaries::shelved, ASK, r(0, 0, 0), r(0, 7), r(0, 9), r(0, 5));
            edges(ToldRowBoundaries::fullShelved, (x, v) -> x.ask(0, v[0], v[1]), r(0, 0), r(0, 12), r(0, 7));
            refused(BAD, Boundaries::shelved, ASK, r(3, 10, 0), r(3, 0, 6), r(5, -1, 0), r(5, 0, -1));
            refused(BAD, Boundaries::fresh, ASK, r(0, 0, 0));
        });
        promise(35, "OTHER;", () -> refused(OTHER, Boundaries::shelved, ASK, r(3, 0, 0), r(6, 9, 5)));
        promise(35, "NOTHING;", () -> refused(NOTHING, Boundaries::shelved, ASK, r(5, 0, 0), r(5, 9, 5)));
        promise(35, "BAD: fewer elements.", () -> fewer(ASK, 9));
        promise(35, "(NONE isn't refused.)", () -> asked(Boundaries::shelved, ASK, r(0, 1, 0, NONE), r(0, 9, 5, NONE)));
    }

    private static void winds() {
        promise(36, "WINDS of a HOUSE by the first n elements (0 to 8, no more than LETTERS) of the ROW in SHELF s.", () -> {
            asked(Boundaries::shelved, WINDS, r(0, 0, 0, 1023), r(0, 1, 0, 512), r(0, 1, 8, 1023), r(7, 6, 8, 1023), r(7, 6, 2, 0));
            asked(ToldRowBoundaries::fullShelved, WINDS, r(0, 8, 11, 1023), r(0, 8, 8, 0), r(0, 6, 8, 1023), r(7, 0, 11, 1023));
            Supplier<ReadOutAlongTheWay> noLetters = () -> {
                ReadOutAlongTheWay x = fresh();
                x.row(0, 0, 2);
                return x;
            };
            asked(noLetters, WINDS, r(0, 0, 0, 1023));
            refused(BAD, noLetters, WINDS, r(0, 1, 0));
        });
        promise(36, "BAD SHELF, n, house;", () -> {
            edges(Boundaries::shelved, WINDS, r(0, 0, 0), r(0, 7), r(0, 6), r(0, 8));
            edges(ToldRowBoundaries::fullShelved, WINDS, r(0, 0, 0), r(0, 7), r(0, 8), r(0, 11));
            refused(BAD, Boundaries::shelved, WINDS, r(3, 7, 0), r(3, 0, 9), r(5, -1, 0), r(5, 0, -1));
        });
        promise(36, "OTHER;", () -> refused(OTHER, Boundaries::shelved, WINDS, r(3, 0, 0), r(6, 6, 8)));
        promise(36, "NOTHING;", () -> refused(NOTHING, Boundaries::shelved, WINDS, r(5, 0, 0), r(5, 6, 8)));
        promise(36, "BAD: fewer elements.", () -> fewer(WINDS, 6));
    }

    private static void judge() {
        Supplier<ReadOutAlongTheWay> forty = () -> {
            ReadOutAlongTheWay x = village();
            x.row(0, 2, 40);
            x.row(7, 2, 40);
            return x;
        };
        promise(59, "A told ROUND by the first n elements (0 to 40) of the ROW in SHELF s: WRONG; NONE.", () -> {
            asked(forty, JUDGE, r(0, 0, NONE), r(0, 1, 0), r(7, 40, 0));
            Supplier<ReadOutAlongTheWay> silent = () -> {
                ReadOutAlongTheWay x = fresh();
                x.row(7, 2, 40);
                return x;
            };
            asked(silent, JUDGE, r(7, 0, NONE), r(7, 8, NONE), r(7, 9, 8), r(7, 40, 8));
        });
        promise(59, "BAD SHELF, n;", () -> {
            edges(forty, JUDGE, r(0, 0), r(0, 7), r(0, 40));
            refused(BAD, forty, JUDGE, r(3, 41), r(3, -1), r(5, 41), r(5, -1));
        });
        promise(59, "OTHER;", () -> refused(OTHER, forty, JUDGE, r(3, 0), r(6, 40)));
        promise(59, "NOTHING;", () -> refused(NOTHING, forty, JUDGE, r(5, 0), r(5, 40)));
        promise(59, "BAD: fewer elements.", () -> fewer(JUDGE, 40));
    }
}
