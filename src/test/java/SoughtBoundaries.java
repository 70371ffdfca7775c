/** What is sought and chosen, sentence by sentence: promises 29 to 32 and 37 to 44, and the Terms of them. */
final class SoughtBoundaries extends Boundaries {
    private static final Call ADDRESS = (x, v) -> x.address(v[0], v[1]);
    private static final Call HUSH = (x, v) -> x.hush(v[0], v[1], v[2]);
    private static final Call SEAL = (x, v) -> x.seal(v[0], v[1]);
    private static final Call SHOUT = (x, v) -> x.shout(v[0], v[1]);
    private static final Call POUR = (x, v) -> x.pour(v[0], v[1], v[2], v[3], v[4]);
    private static final Call ANSWER = (x, v) -> x.answer(v[0], v[1], v[2], v[3], v[4]);
    private static final Call CHANCE = (x, v) -> x.chance(v[0], v[1]);
    private static final Call SURE = (x, v) -> x.sure(v[0]);
    private static final Call TURNED = (x, v) -> x.turned(v[0]);
    private static final Call GOSSIPS = (x, v) -> x.gossips();
    private static final Call COLDS = (x, v) -> x.colds(v[0], v[1]);
    private static final Call WIDEST = (x, v) -> x.widest(v[0], v[1]);

    private SoughtBoundaries() {
    }

    static void all() {
        ofAddress();
        ofHush();
        ofSeal();
        ofShout();
        ofPour();
        ofChance();
        address();
        hush();
        seal();
        shout();
        pour();
        chanceAndSure();
        turned();
        gossips();
        colds();
        widest();
    }

    private static ReadOutAlongTheWay plainTen() {
        return plain(10);
    }

    // ---- the Terms

    private static void ofAddress() {
        terms("29", "ADDRESS: the first TO by which of told HOUSES (bits) just those KNOW a LETTER, all else as it is; NONE.", () -> {
            ReadOutAlongTheWay x = plain(10);
            for (int to = 0; to < 8; to++) {
                answers(x, ADDRESS, r(0, (2 << to) - 1, to));
            }
            answers(x, ADDRESS, r(0, 0, NONE), r(0, 2, NONE), r(0, 5, NONE), r(0, 128, NONE), r(0, 254, NONE));
            windy(x, 3, 7, 9);
            answers(x, ADDRESS, r(0, 7, 2), r(0, 15, NONE), r(0, 3, 1));
            x.tell(7, 0, 0);
            answers(x, ADDRESS, r(0, 135, 7));
            x.way(true);
            answers(x, ADDRESS, r(0, 128, 3), r(0, 132, 2), r(0, 135, 0), r(0, 7, NONE));
            due("all else as it is", x.letterOf(0, 2), 7);
            asked(Boundaries::unheard, ADDRESS, r(0, 0, 0), r(0, 1, NONE));
            x.letter(5, 0, 4, 10);
            answers(x, ADDRESS, r(1, 0, NONE), r(1, 1, 0), r(1, 128, 7), r(1, 3, NONE));
        });
    }

    private static void ofHush() {
        terms("30", "HUSH: the least DRINK more (1 to 40) poured at one HOUSE (its DRINK may be above 9 by it) so that of told HOUSES"
            + " none KNOWS a LETTER, but TO does, if it isn't told:", () -> {
                least();
                greatest();
                toKnows();
            });
        terms("30", "how much; at which HOUSE, of several the first; 0, NONE: it's so now; NONE: none.", () -> {
            ReadOutAlongTheWay x = fresh();
            x.letter(0, 0, 3, 10);
            hushed(x, 0, 0, 0, NONE);
            hushed(x, 0, 16, 0, NONE);
            hushed(x, 0, 1, NONE, NONE);
            hushed(x, 0, 8, 24, 0);
            hushed(x, 0, 12, 24, 0);
            hushed(x, 0, 14, 24, 0);
            hushed(x, 0, 15, NONE, NONE);
            x.tell(2, 1, 4);
            hushed(x, 0, 8, 20, 0);
            x.tell(1, 1, 3);
            hushed(x, 0, 8, 17, 0);
            x.tell(3, 0, 6);
            hushed(x, 0, 8, 0, NONE);
            hushed(x, 0, 0, NONE, NONE);
        });
    }

    private static void hushed(ReadOutAlongTheWay x, int letter, int set, int much, int where) {
        answers(x, HUSH, r(letter, set, 0, much), r(letter, set, 1, where));
    }

    /** A quarter more is left out by 1 more, where 3 are drunk already. */
    private static void least() {
        ReadOutAlongTheWay x = fresh();
        x.letter(0, 0, 1, 1);
        hushed(x, 0, 2, 4, 0);
        x.tell(0, 1, 3);
        hushed(x, 0, 2, 1, 0);
        x.tell(0, 1, 4);
        hushed(x, 0, 2, 0, NONE);
        hushed(x, 0, 0, NONE, NONE);
        due("nothing was poured", x.houseOf(0, 1), 4);
        x.houses(12);
        hushed(x, 0, 0, NONE, NONE);
        x.mend(0, 0, 0);
        hushed(x, 0, 1, NONE, NONE);
    }

    /** Of 19 words 9 may be heard at most, so 10 are left out by 40; of 20 words 11 would be by 44. */
    private static void greatest() {
        ReadOutAlongTheWay x = fresh();
        x.letter(0, 0, 1, 19);
        hushed(x, 0, 2, 40, 0);
        x.mend(0, 1, 20);
        hushed(x, 0, 2, NONE, NONE);
        x.tell(0, 1, 3);
        hushed(x, 0, 2, NONE, NONE);
        x.tell(0, 1, 4);
        hushed(x, 0, 2, 40, 0);
        x.tell(0, 1, 9);
        hushed(x, 0, 2, 35, 0);
        due("nothing was poured", x.houseOf(0, 1), 9);
    }

    private static void toKnows() {
        ReadOutAlongTheWay x = fresh();
        x.letter(0, 0, 3, 10);
        x.tell(2, 0, 5);
        hushed(x, 0, 4, 4, 0);
        x.tell(3, 0, 4);
        hushed(x, 0, 4, 4, 0);
        x.tell(3, 0, 5);
        hushed(x, 0, 4, NONE, NONE);
        hushed(x, 0, 12, 4, 0);
        hushed(x, 0, 8, 4, 0);
        x.way(true);
        hushed(x, 0, 8, 4, 4);
    }

    private static void ofSeal() {
        terms("31", "SEAL: the KIND, of several the least, by which of told HOUSES just those KNOW it; NONE.", () -> {
            ReadOutAlongTheWay x = fresh();
            x.letter(5, 3, 7, 10);
            answers(x, SEAL, r(0, 255, 0), r(0, 128, 2), r(0, 192, NONE), r(0, 0, NONE));
            x.code(6, 3, true);
            answers(x, SEAL, r(0, 192, 2), r(0, 128, 5));
            x.code(5, 3, true);
            answers(x, SEAL, r(0, 224, 2), r(0, 192, 4), r(0, 128, 5));
            x.tell(0, 0, 9);
            answers(x, SEAL, r(0, 254, 0), r(0, 255, 1));
            x.cold(9);
            x.tell(0, 0, 6);
            answers(x, SEAL, r(0, 254, 0), r(0, 255, 3));
            x.tell(7, 0, 9);
            answers(x, SEAL, r(0, 128, 5), r(0, 64, 4), r(0, 96, 2));
            due("the kind stays", x.letterOf(0, 0), 5);
        });
    }

    private static void ofShout() {
        terms("32", "SHOUT: the least LENGTH (1 to 40) by which a HOUSE KNOWS a LETTER; NONE.", () -> {
            ReadOutAlongTheWay x = fresh();
            x.letter(0, 0, 6, 30);
            answers(x, SHOUT, r(0, 0, 1), r(0, 6, 1), r(0, 7, NONE));
            x.tell(6, 0, 1);
            answers(x, SHOUT, r(0, 6, 2));
            x.tell(6, 0, 9);
            x.cold(9);
            pouring(x, 0, 3, 8);
            answers(x, SHOUT, r(0, 6, 40), r(0, 0, 6));
            x.tell(4, 1, 4);
            answers(x, SHOUT, r(0, 6, NONE));
            due("the length stays", x.letterOf(0, 3), 30);
            x.letter(5, 0, 6, 30);
            answers(x, SHOUT, r(1, 6, 1), r(1, 5, NONE));
        });
    }

    private static void ofPour() {
        terms("37, 38", "POUR: two HOUSES, of which one (much) wants as much as can be HEARD of a LETTER at a HOUSE, the other one (little)"
            + " as little: the one sets its DRINK (0 to 9), then the other one its own: what is HEARD then, both choosing best;"
            + " the one's DRINK, of several the least.", () -> {
                ReadOutAlongTheWay x = plain(10);
                answers(x, POUR, r(0, 1, 0, 7, 0, 8), r(0, 1, 0, 7, 1, 0));
                pouring(x, 0, 1, 9);
                answers(x, POUR, r(0, 1, 0, 7, 0, 8), r(1, 0, 0, 7, 0, 8), r(0, 1, 0, 7, 1, 0));
                x.tell(2, 1, 3);
                answers(x, POUR, r(0, 1, 0, 7, 0, 7), r(0, 1, 0, 2, 0, 8), r(0, 1, 0, 1, 0, 10), r(1, 0, 0, 1, 0, 8), r(2, 0, 0, 1, 0, 8));
                answers(x, POUR, r(0, 7, 0, 7, 0, 7), r(7, 0, 0, 7, 0, 5), r(0, 1, 0, 0, 0, 10));
                answers(x, POUR, r(7, 6, 0, 0, 1, 0), r(7, 6, 0, 0, 0, 10));
                x.way(true);
                answers(x, POUR, r(7, 6, 0, 7, 0, 10), r(7, 6, 0, 6, 0, 0));
                due("nothing was poured", x.houseOf(0, 1), 9);
            });
    }

    private static void ofChance() {
        terms("39", "CHANCE: WIND of a HOUSE being 0 to 9, each alike: of 1,000,000, how likely it KNOWS a LETTER.", () -> {
            int[][] byLength = {{1, 100000}, {2, 200000}, {3, 200000}, {10, 600000}, {16, 900000}, {17, 900000}, {18, 1000000}, {40, 1000000}};
            for (int[] row : byLength) {
                ReadOutAlongTheWay x = plain(row[0]);
                windy(x, 0, 7, 9);
                answers(x, CHANCE, r(0, 0, row[1]), r(0, 7, row[1]));
                due("the wind stays", x.houseOf(0, 0), 9);
                x.mend(0, 0, 6);
                answers(x, CHANCE, r(0, 7, 0), r(0, 6, row[1]));
            }
            asked(Boundaries::unheard, CHANCE, r(0, 0, 0));
        });
        terms("40", "SURE: of all HOUSES at which a LETTER is read but TO, how many would KNOW it, whatever WIND there is.", () -> {
            int[][] byLength = {{1, 0}, {16, 0}, {17, 0}, {18, 7}, {40, 7}};
            for (int[] row : byLength) {
                ReadOutAlongTheWay x = plain(row[0]);
                answers(x, SURE, r(0, row[1]));
            }
            ReadOutAlongTheWay x = plain(18);
            x.mend(0, 0, 0);
            answers(x, SURE, r(0, 0));
            x.mend(0, 0, 1);
            answers(x, SURE, r(0, 1));
            x.way(true);
            answers(x, SURE, r(0, 6));
            x.tell(5, 1, 4);
            answers(x, SURE, r(0, 3));
            x.letter(5, 0, 4, 20);
            answers(x, SURE, r(1, 0));
        });
    }

    // ---- promises 29 to 32

    private static void address() {
        promise(29, "ADDRESS of a LETTER for told HOUSES (bits); NONE.", () -> {
            asked(Boundaries::village, ADDRESS, r(0, 43, 5), r(0, 1, 0), r(0, 3, 1), r(0, 4, NONE), r(0, 0, NONE), r(0, 511, NONE), r(5, 1, 0),
                r(5, 256, 8), r(5, 3, NONE));
            asked(Boundaries::unheard, ADDRESS, r(0, 0, 0));
        });
        promise(29, "BAD: also HOUSES that aren't there.", () -> {
            edges(Boundaries::village, ADDRESS, r(0, 0), r(0, 5), r(0, 511));
            refused(BAD, Boundaries::village, ADDRESS, r(0, 513), r(0, 1024), r(0, 1 << 16));
            ReadOutAlongTheWay x = plain(10);
            answers(x, ADDRESS, r(0, 255, 7), r(0, 256, BAD), r(0, 511, BAD));
            x.houses(12);
            answers(x, ADDRESS, r(0, 256, NONE), r(0, 511, 8), r(0, 4095, 11), r(0, 4096, BAD));
            refused(BAD, Boundaries::fresh, ADDRESS, r(0, 0));
        });
        promise(29, "(NONE isn't refused.)", () -> asked(SoughtBoundaries::plainTen, ADDRESS, r(0, 0, NONE), r(0, 2, NONE), r(0, 128, NONE)));
    }

    private static void hush() {
        promise(30, "HUSH of a LETTER from told HOUSES: how much (what 0), where (1; NONE); NONE.", () ->
            asked(Boundaries::village, HUSH, r(0, 32, 0, 12), r(0, 32, 1, 0), r(0, 0, 0, 0), r(0, 0, 1, NONE), r(5, 4, 0, NONE), r(5, 4, 1, NONE),
                r(5, 3, 0, 0), r(5, 3, 1, NONE)));
        promise(30, "BAD likewise.", () -> {
            edges(Boundaries::village, HUSH, r(0, 0, 0), r(0, 5), r(0, 511), r(0, 1));
            ReadOutAlongTheWay x = plain(1);
            answers(x, HUSH, r(0, 128, 0, 4), r(0, 256, 0, BAD));
            x.houses(9);
            answers(x, HUSH, r(0, 256, 0, 0), r(0, 512, 0, BAD));
            refused(BAD, Boundaries::fresh, HUSH, r(0, 0, 0), r(0, 0, 1));
        });
        promise(30, "(NONE isn't refused.)", () -> {
            asked(SoughtBoundaries::plainTen, HUSH, r(0, 0, 1, NONE), r(0, 1, 0, NONE), r(0, 1, 1, NONE));
            asked(Boundaries::unheard, HUSH, r(0, 0, 0, NONE), r(0, 0, 1, NONE));
        });
    }

    private static void seal() {
        promise(31, "SEAL of a LETTER for told HOUSES; NONE.", () ->
            asked(Boundaries::village, SEAL, r(0, 43, 0), r(0, 47, 1), r(0, 32, 2), r(0, 63, NONE), r(0, 0, NONE), r(5, 4, 5), r(5, 7, 3), r(5, 3, 0), r(5, 0, 2)));
        promise(31, "BAD likewise.", () -> {
            edges(Boundaries::village, SEAL, r(0, 0), r(0, 5), r(0, 511));
            ReadOutAlongTheWay x = plain(1);
            answers(x, SEAL, r(0, 255, 0), r(0, 256, BAD));
            x.houses(9);
            answers(x, SEAL, r(0, 256, NONE), r(0, 512, BAD));
            refused(BAD, Boundaries::fresh, SEAL, r(0, 0));
        });
        promise(31, "(NONE isn't refused.)", () -> asked(SoughtBoundaries::plainTen, SEAL, r(0, 0, NONE), r(0, 1, NONE), r(0, 127, NONE)));
    }

    private static void shout() {
        promise(32, "SHOUT of a LETTER to a HOUSE; NONE.", () ->
            asked(Boundaries::village, SHOUT, r(0, 0, 2), r(0, 4, 24), r(0, 8, NONE), r(5, 2, 1), r(5, 1, NONE), r(5, 8, NONE)));
        promise(32, "BAD.", () -> {
            edges(Boundaries::village, SHOUT, r(0, 0), r(0, 5), r(0, 8));
            refused(BAD, Boundaries::fresh, SHOUT, r(0, 0));
        });
        promise(32, "(NONE isn't refused.)", () -> {
            ReadOutAlongTheWay x = plain(10);
            x.mend(0, 0, 3);
            answers(x, SHOUT, r(0, 4, NONE), r(0, 7, NONE), r(0, 3, 1));
            unrefused(x);
        });
    }

    // ---- promises 37 to 44

    private static void pour() {
        promise(37, "POUR of two HOUSES (much, little) for a LETTER at a HOUSE: what is HEARD (what 0), the one's DRINK (1).", () -> {
            asked(Boundaries::village, POUR, r(0, 2, 0, 5, 0, 5), r(0, 2, 0, 5, 1, 0), r(1, 2, 0, 5, 0, 7), r(0, 1, 0, 8, 0, 0), r(0, 1, 5, 2, 0, 5),
                r(8, 7, 5, 2, 0, 5), r(8, 0, 0, 5, 0, 5));
        });
        promise(37, "BAD: also the same two.", () -> {
            edges(Boundaries::village, POUR, r(8, 4, 0, 0, 0), r(5, 8), r(0, 7), r(0, 5), r(0, 8), r(0, 1));
            edgesOfTwo(POUR);
        });
        promise(38, "The other one's DRINK (0 to 9; little), if the one's is v (0 to 9), of several the least.", () -> {
            int[] byTen = {8, 7, 6, 9, 8, 7, 6, 9, 8, 7};
            ReadOutAlongTheWay x = plain(10);
            pouring(x, 0, 1, 5);
            for (int v = 0; v < 10; v++) {
                answers(x, ANSWER, r(0, 1, 0, 7, v, byTen[v]), r(1, 0, 0, 7, v, byTen[v]), r(1, 0, 0, 1, v, 8));
                answers(x, ANSWER, r(0, 1, 0, 1, v, 0), r(0, 7, 0, 7, v, 0));
            }
            x.mend(0, 1, 1);
            answers(x, ANSWER, r(0, 1, 0, 7, 0, 4), r(0, 1, 0, 7, 3, 1), r(0, 1, 0, 7, 4, 0), r(0, 1, 0, 7, 9, 0));
            x.mend(0, 1, 2);
            answers(x, ANSWER, r(0, 1, 0, 7, 0, 8), r(0, 1, 0, 7, 7, 1), r(0, 1, 0, 7, 8, 0));
            due("nothing was poured", x.houseOf(1, 1), 5);
        });
        promise(38, "BAD likewise.", () -> {
            edges(Boundaries::village, ANSWER, r(8, 4, 0, 0, 0), r(5, 8), r(0, 7), r(0, 5), r(0, 8), r(0, 9));
            edgesOfTwo(ANSWER);
        });
    }

    /** The two may be any but the same; the ranges of edges stop short of the one that the other is. */
    private static void edgesOfTwo(Call call) {
        for (int one = 0; one < 9; one++) {
            for (int two = 0; two < 9; two++) {
                int[] v = {one, two, 0, 0, 0};
                if (one == two) {
                    refused(BAD, Boundaries::village, call, v);
                } else {
                    allowed(Boundaries::village, call, v);
                }
            }
        }
        refused(BAD, Boundaries::village, call, r(-1, 0, 0, 0, 0), r(9, 0, 0, 0, 0), r(0, -1, 0, 0, 0), r(0, 9, 0, 0, 0), r(-1, -1, 0, 0, 0));
        refused(BAD, Boundaries::fresh, call, r(0, 1, 0, 0, 0));
    }

    private static void chanceAndSure() {
        promise(39, "CHANCE.", () ->
            asked(Boundaries::village, CHANCE, r(0, 0, 500000), r(0, 5, 300000), r(0, 6, 0), r(5, 2, 1000000), r(5, 8, 0), r(3, 4, 1000000)));
        promise(39, "BAD.", () -> {
            edges(Boundaries::village, CHANCE, r(0, 0), r(0, 5), r(0, 8));
            refused(BAD, Boundaries::fresh, CHANCE, r(0, 0));
        });
        promise(40, "SURE.", () -> {
            asked(Boundaries::village, SURE, r(0, 0), r(3, 4), r(5, 0));
            asked(Boundaries::unheard, SURE, r(0, 0));
        });
        promise(40, "BAD.", () -> {
            edges(Boundaries::village, SURE, r(0), r(0, 5));
            refused(BAD, Boundaries::fresh, SURE, r(0));
        });
    }

    private static void turned() {
        promise(41, "How many HOUSES KNOW a LETTER, if the round goes the other way.", () -> {
            ReadOutAlongTheWay x = plain(10);
            for (int to = 0; to < 8; to++) {
                x.mend(0, 0, to);
                answers(x, TURNED, r(0, 8 - to));
                x.way(true);
                answers(x, TURNED, r(0, to + 1));
                x.way(false);
            }
            status(x, 3, 0);
            asked(Boundaries::unheard, TURNED, r(0, 0));
            asked(Boundaries::village, TURNED, r(0, 4), r(1, 2), r(5, 1));
        });
        promise(41, "BAD.", () -> {
            edges(Boundaries::village, TURNED, r(0), r(0, 5));
            refused(BAD, Boundaries::fresh, TURNED, r(0));
        });
    }

    private static void gossips() {
        promise(42, "The two HOUSES that KNOW most LETTERS both, of several the first by numbers: 100 times the lesser and the other;", () -> {
            ReadOutAlongTheWay x = plain(10);
            x.houses(12);
            answers(x, GOSSIPS, r(1));
            x.tell(0, 0, 9);
            answers(x, GOSSIPS, r(102));
            x.letter(2, 0, 11, 10);
            x.code(10, 0, true);
            answers(x, GOSSIPS, r(102));
            x.letter(2, 0, 11, 10);
            answers(x, GOSSIPS, r(1011));
            x.mend(0, 0, 11);
            answers(x, GOSSIPS, r(1011));
            x.code(2, 0, true);
            answers(x, GOSSIPS, r(210));
            x.code(0, 0, true);
            answers(x, GOSSIPS, r(210));
            x.tell(0, 0, 0);
            answers(x, GOSSIPS, r(2));
            x.way(true);
            answers(x, GOSSIPS, r(NONE));
            x.mend(0, 0, 3);
            answers(x, GOSSIPS, r(304));
        });
        promise(42, "NONE: no two KNOW one both.", () -> {
            ReadOutAlongTheWay x = fresh();
            answers(x, GOSSIPS, r(NONE));
            x.letter(0, 0, 0, 10);
            x.letter(5, 0, 1, 10);
            x.letter(5, 0, 7, 10);
            answers(x, GOSSIPS, r(NONE));
            x.letter(5, 0, 1, 10);
            answers(x, GOSSIPS, r(NONE));
            x.mend(0, 0, 1);
            answers(x, GOSSIPS, r(1));
        });
        promise(42, "(NONE isn't refused.)", () -> {
            asked(Boundaries::fresh, GOSSIPS, r(NONE));
            asked(Boundaries::unheard, GOSSIPS, r(NONE));
        });
    }

    private static void colds() {
        promise(43, "The least COLD (0 to 9), all else as it is, by which a HOUSE doesn't KNOW a LETTER; NONE.", () -> {
            int[] byLength = {3, 6, 6, 9, 9, NONE, NONE};
            for (int length = 1; length <= byLength.length; length++) {
                ReadOutAlongTheWay x = plain(length);
                answers(x, COLDS, r(0, 0, byLength[length - 1]), r(0, 7, byLength[length - 1]));
                x.cold(9);
                answers(x, COLDS, r(0, 0, byLength[length - 1]));
                status(x, 2, 9);
                x.mend(0, 0, 6);
                answers(x, COLDS, r(0, 7, 0), r(0, 6, byLength[length - 1]));
            }
            ReadOutAlongTheWay x = plain(10);
            x.tell(7, 0, 5);
            answers(x, COLDS, r(0, 7, 3));
            x.tell(7, 0, 6);
            answers(x, COLDS, r(0, 7, 0));
        });
        promise(43, "BAD.", () -> {
            edges(Boundaries::village, COLDS, r(0, 0), r(0, 5), r(0, 8));
            refused(BAD, Boundaries::fresh, COLDS, r(0, 0));
        });
        promise(43, "(NONE isn't refused.)", () -> {
            asked(SoughtBoundaries::plainTen, COLDS, r(0, 0, NONE), r(0, 7, NONE));
            asked(Boundaries::village, COLDS, r(5, 2, NONE), r(0, 5, NONE));
        });
    }

    private static void widest() {
        promise(44, "The HOUSE to which, TO being so, a LETTER is known by most HOUSES, of several the first (what 0), by how many (1).", () -> {
            ReadOutAlongTheWay x = plain(10);
            x.mend(0, 0, 3);
            answers(x, WIDEST, r(0, 0, 7), r(0, 1, 8));
            x.way(true);
            answers(x, WIDEST, r(0, 0, 0), r(0, 1, 8));
            x.way(false);
            windy(x, 3, 7, 9);
            answers(x, WIDEST, r(0, 0, 2), r(0, 1, 3));
            x.tell(7, 0, 0);
            answers(x, WIDEST, r(0, 0, 7), r(0, 1, 4));
            due("to stays", x.letterOf(0, 2), 3);
            x.letter(5, 0, 4, 10);
            answers(x, WIDEST, r(1, 0, 0), r(1, 1, 1));
            x.way(true);
            answers(x, WIDEST, r(1, 0, 0), r(1, 1, 1));
            asked(Boundaries::unheard, WIDEST, r(0, 0, 0), r(0, 1, 0));
        });
        promise(44, "BAD.", () -> {
            edges(Boundaries::village, WIDEST, r(0, 0), r(0, 5), r(0, 1));
            refused(BAD, Boundaries::fresh, WIDEST, r(0, 0), r(0, 1));
        });
    }
}
