/** The lane as it is told, sentence by sentence: THE LANE of the Terms, promises 1 and 9 to 15. */
final class LaneBoundaries extends Boundaries {
    private static final Call HOUSES = (x, v) -> x.houses(v[0]);
    private static final Call LETTER = (x, v) -> x.letter(v[0], v[1], v[2], v[3]);
    private static final Call MEND = (x, v) -> x.mend(v[0], v[1], v[2]);
    private static final Call TELL = (x, v) -> x.tell(v[0], v[1], v[2]);
    private static final Call KNOW = (x, v) -> x.code(v[0], v[1], true);
    private static final Call FORGET = (x, v) -> x.code(v[0], v[1], false);
    private static final Call COLD = (x, v) -> x.cold(v[0]);

    private LaneBoundaries() {
    }

    static void all() {
        life();
        newObject();
        housesOfTheLane();
        whatAHouseHas();
        restOfTheLane();
        lettersOfTheLane();
        whatALetterHas();
        houses();
        letter();
        mend();
        tell();
        code();
        coldAndWay();
    }

    private static void life() {
        Doc.life("An object is used for at most 512 calls after it has been made; what later calls answer is free.", () -> {
            ReadOutAlongTheWay x = fresh();
            for (int k = 0; k < 8; k++) {
                due("letter", x.letter(5, 0, 7, 40), k);
            }
            for (int k = 1; k <= 502; k++) {
                due("call " + (8 + k), x.days(60), k * 60 * 320);
            }
            due("call 511", x.status(6), 502 * 60);
            due("call 512", x.houseOf(7, 3), 502 * 60 * 320);
            ReadOutAlongTheWay y = fresh();
            for (int k = 1; k <= 511; k++) {
                y.cold(-1);
            }
            due("call 512, all refused", y.status(12), 511);
        });
    }

    private static void newObject() {
        promise(1, "8 HOUSES, no LETTERS;", () -> {
            ReadOutAlongTheWay x = fresh();
            status(x, 0, 0);
            status(x, 1, 8);
            due("the last house", x.houseOf(7, 0), 0);
            due("one more", x.houseOf(8, 0), BAD);
            due("the first letter", x.letterOf(0, 0), BAD);
            due("the first that comes", x.letter(0, 0, 7, 1), 0);
        });
        promise(1, "SHELVES hold NOTHING;", () -> {
            ReadOutAlongTheWay x = fresh();
            for (int s = 0; s < 8; s++) {
                due("holds " + s, x.holds(s), NONE);
                due("set " + s, x.set(s, 0, 1), NOTHING);
            }
            status(x, 9, 0);
            status(x, 14, 8);
        });
        promise(1, "THE TAPE is empty.", () -> {
            ReadOutAlongTheWay x = fresh();
            status(x, 7, 0);
            due("wipe", x.wipe(), 0);
            due("lane", x.lane(), -20);
            due("the first byte", x.feed(0), 1);
        });
    }

    // ---- THE LANE

    private static void housesOfTheLane() {
        terms("9, 12, 20", "HOUSES have numbers, 0 to n less 1", () -> {
            for (int n : new int[] {8, 9, 12}) {
                ReadOutAlongTheWay x = fresh();
                x.houses(n);
                answers(x, TELL, r(0, 0, 1, 0), r(n - 1, 0, 2, 0), r(-1, 0, 3, BAD), r(n, 0, 3, BAD));
                due("wind of the first", x.houseOf(0, 0), 1);
                due("wind of the last", x.houseOf(n - 1, 0), 2);
                due("one less", x.houseOf(-1, 0), BAD);
                due("one more", x.houseOf(n, 0), BAD);
                status(x, 12, 4);
            }
        });
        terms("1, 9", "(n: 2 to 12; 8 at first),", () -> {
            ReadOutAlongTheWay x = fresh();
            status(x, 1, 8);
            answers(x, HOUSES, r(1, BAD), r(2, BAD), r(13, BAD), r(12, 8), r(13, BAD));
            status(x, 1, 12);
            due("the last", x.houseOf(11, 1), 0);
            status(x, 12, 4);
        });
    }

    private static void whatAHouseHas() {
        terms("12, 20", "each with WIND (0 to 9),", () -> {
            ReadOutAlongTheWay x = plain(10);
            answers(x, TELL, r(3, 0, 9, 0), r(3, 0, 10, BAD), r(3, 0, -1, BAD));
            due("the greatest stays", x.houseOf(3, 0), 9);
            due("heard by it", x.heard(0, 3), 1);
            answers(x, TELL, r(3, 0, 0, 9), r(3, 0, -1, BAD));
            due("the least stays", x.houseOf(3, 0), 0);
            due("heard by it", x.heard(0, 3), 10);
            due("the house ahead", x.houseOf(2, 0), 0);
        });
        terms("12, 20", "DRINK (0 to 9),", () -> {
            ReadOutAlongTheWay x = fresh();
            answers(x, TELL, r(3, 1, 9, 0), r(3, 1, 10, BAD), r(3, 1, -1, BAD));
            due("the greatest stays", x.houseOf(3, 1), 9);
            due("tipsy behind it", x.houseOf(4, 4), 9);
            answers(x, TELL, r(3, 1, 0, 9), r(3, 1, -1, BAD));
            due("the least stays", x.houseOf(3, 1), 0);
            status(x, 4, 0);
        });
        terms("13, 20", "CODES it knows (bits 0 to 9),", () -> {
            ReadOutAlongTheWay x = fresh();
            answers(x, KNOW, r(3, 0, 0), r(3, 9, 0), r(3, 10, BAD), r(3, -1, BAD));
            due("the least and the greatest", x.houseOf(3, 2), 513);
            answers(x, FORGET, r(3, 0, 1), r(3, 10, BAD), r(3, -1, BAD));
            due("the greatest", x.houseOf(3, 2), 512);
            for (int code = 0; code < 10; code++) {
                x.code(7, code, true);
            }
            due("all", x.houseOf(7, 2), 1023);
            due("the house ahead", x.houseOf(6, 2), 0);
        });
        terms("20, 27, 60", "EARS (how many words it heard in truth);", () -> {
            ReadOutAlongTheWay x = plain(5);
            due("words that are only asked", x.words(0), 5);
            due("no round was", x.houseOf(0, 3), 0);
            due("a round", x.round(false), 40);
            due("once", x.houseOf(0, 3), 5);
            due("another round", x.round(true), 80);
            due("twice", x.houseOf(7, 3), 10);
            due("a round without letters", x.round(false), 80);
            due("still", x.houseOf(7, 3), 10);
        });
        terms("1, 9, 20", "all 0 at first.", () -> {
            ReadOutAlongTheWay x = plain(5);
            for (int k = 0; k < 32; k++) {
                due("house and what " + k, x.houseOf(k / 4, k % 4), 0);
            }
            x.days(60);
            x.houses(12);
            for (int k = 32; k < 48; k++) {
                due("house and what " + k, x.houseOf(k / 4, k % 4), 0);
            }
        });
    }

    private static void restOfTheLane() {
        terms("14, 20, 65", "COLD (0 to 9; 0 at first).", () -> {
            ReadOutAlongTheWay x = fresh();
            status(x, 2, 0);
            answers(x, COLD, r(9, 0), r(10, BAD));
            status(x, 2, 9);
            due("left out", x.houseOf(0, 5), 3);
            answers(x, COLD, r(0, 9), r(-1, BAD));
            status(x, 2, 0);
            due("left out", x.houseOf(0, 5), 0);
        });
        terms("15, 22, 65", "BACK, or not (not at first): which way the round goes.", () -> {
            ReadOutAlongTheWay x = fresh();
            x.letter(0, 0, 2, 4);
            status(x, 3, 0);
            due("forth, the first", x.isRead(0, 0), 1);
            due("forth, the last", x.isRead(0, 7), 0);
            due("back", x.way(true), 0);
            status(x, 3, 1);
            due("back, the first", x.isRead(0, 0), 0);
            due("back, the last", x.isRead(0, 7), 1);
            due("forth again", x.way(false), 1);
            due("forth, the first again", x.isRead(0, 0), 1);
        });
        terms("60, 61, 65", "DAYS (0 at first).", () -> {
            ReadOutAlongTheWay x = fresh();
            status(x, 6, 0);
            x.round(false);
            status(x, 6, 1);
            x.days(60);
            status(x, 6, 61);
            x.days(61);
            status(x, 6, 61);
        });
    }

    private static void lettersOfTheLane() {
        terms("10, 19, 65", "LETTERS have numbers, 0 on, 8 at most,", () -> {
            ReadOutAlongTheWay x = fresh();
            for (int k = 0; k < 8; k++) {
                due("not yet " + k, x.letterOf(k, 3), BAD);
                due("letter " + k, x.letter(0, 0, k, k + 1), k);
                due("length of " + k, x.letterOf(k, 3), k + 1);
                status(x, 0, k + 1);
            }
            due("one more", x.letter(0, 0, 0, 1), FULL);
            status(x, 0, 8);
            due("the last", x.letterOf(7, 3), 8);
            due("behind it", x.letterOf(8, 3), BAD);
            due("ahead of the first", x.letterOf(-1, 3), BAD);
            x.round(true);
            due("0 on again", x.letter(0, 0, 0, 1), 0);
        });
        terms("8, 10, 19", "each of a KIND: 0 LETTER; 1 SCOLDING, 2 DRAINS, 5 HONEYED, each under LETTER; 3 PLAINT, under SCOLDING;"
            + " 4 LOVE, under DRAINS;", () -> {
                int[] takenFor = {0b000001, 0b000011, 0b000101, 0b001011, 0b010101, 0b100001};
                ReadOutAlongTheWay x = fresh();
                answers(x, LETTER, r(-1, 0, 0, 1, BAD), r(6, 0, 0, 1, BAD));
                for (int kind = 0; kind <= 5; kind++) {
                    due("kind " + kind, x.letter(kind, 7, 0, 9), kind);
                    due("is " + kind, x.letterOf(kind, 0), kind);
                    x.show(kind, kind);
                    for (int as = 0; as <= 5; as++) {
                        int said = as == 0 ? 7 : 9;
                        due(kind + " taken for " + as, x.says(kind, as), (takenFor[kind] >> as & 1) == 1 ? said : OTHER);
                    }
                }
                status(x, 0, 6);
            });
    }

    private static void whatALetterHas() {
        terms("10, 19", "a (0 to 9),", () -> {
            ReadOutAlongTheWay x = fresh();
            answers(x, LETTER, r(0, 0, 0, 1, 0), r(0, 9, 0, 1, 1), r(0, -1, 0, 1, BAD), r(0, 10, 0, 1, BAD));
            due("the least", x.letterOf(0, 1), 0);
            due("the greatest", x.letterOf(1, 1), 9);
            status(x, 0, 2);
        });
        terms("10, 11, 19", "TO (a HOUSE),", () -> {
            ReadOutAlongTheWay x = fresh();
            answers(x, LETTER, r(0, 0, 0, 1, 0), r(0, 0, 7, 1, 1), r(0, 0, -1, 1, BAD), r(0, 0, 8, 1, BAD));
            answers(x, MEND, r(0, 0, 7, 0), r(0, 0, 8, BAD), r(0, 0, -1, BAD));
            status(x, 0, 2);
            x.houses(9);
            answers(x, LETTER, r(0, 0, 8, 1, 2), r(0, 0, 9, 1, BAD));
            answers(x, MEND, r(0, 0, 8, 7), r(0, 0, 9, BAD));
            due("the last there is", x.letterOf(2, 2), 8);
            due("mended", x.letterOf(0, 2), 8);
        });
        terms("10, 11, 19, 21", "LENGTH (1 to 40: words).", () -> {
            ReadOutAlongTheWay x = fresh();
            answers(x, LETTER, r(0, 0, 0, 1, 0), r(0, 0, 0, 40, 1), r(0, 0, 0, 0, BAD), r(0, 0, 0, 41, BAD));
            answers(x, MEND, r(0, 1, 0, BAD), r(1, 1, 41, BAD));
            due("the least is heard", x.heard(0, 0), 1);
            due("the greatest is heard", x.heard(1, 0), 40);
            status(x, 0, 2);
        });
    }

    // ---- promises 9 to 15

    private static void houses() {
        promise(9, "There are n HOUSES: how many there were.", () -> {
            ReadOutAlongTheWay x = fresh();
            answers(x, HOUSES, r(8, 8), r(9, 8), r(9, 9), r(12, 9), r(12, 12));
            status(x, 1, 12);
            unrefused(x);
            asked(Boundaries::village, HOUSES, r(9, 9));
        });
        promise(9, "BAD: also fewer than there are.", () -> {
            edges(Boundaries::village, HOUSES, r(9), r(9, 12));
            refused(BAD, Boundaries::village, HOUSES, r(2), r(1), r(0), r(-1));
            ReadOutAlongTheWay x = village();
            answers(x, HOUSES, r(11, 9), r(10, BAD), r(9, BAD), r(11, 11));
            x.back();
            answers(x, HOUSES, r(8, BAD), r(9, 9), r(10, 9));
            status(x, 12, 4);
        });
    }

    private static void letter() {
        promise(10, "A LETTER: the number.", () -> {
            ReadOutAlongTheWay x = village();
            answers(x, LETTER, r(5, 9, 8, 40, 6), r(0, 0, 0, 1, 7));
            answers(x, (y, v) -> y.letterOf(v[0], v[1]), r(6, 0, 5), r(6, 1, 9), r(6, 2, 8), r(6, 3, 40), r(7, 0, 0), r(7, 1, 0), r(7, 2, 0),
                r(7, 3, 1), r(5, 3, 5));
            x.back();
            due("behind those that were kept", x.letter(1, 1, 1, 1), 6);
        });
        promise(10, "BAD;", () -> {
            edges(Boundaries::village, LETTER, r(0, 0, 0, 1), r(0, 5), r(0, 9), r(0, 8), r(1, 40));
            refused(BAD, Boundaries::fullVillage, LETTER, r(6, 0, 0, 1), r(0, 10, 0, 1), r(0, 0, 9, 1), r(0, 0, 0, 41), r(-1, -1, -1, 0));
        });
        promise(10, "FULL.", () -> {
            refused(FULL, Boundaries::fullVillage, LETTER, r(0, 0, 0, 1), r(5, 9, 8, 40));
            ReadOutAlongTheWay x = village();
            answers(x, LETTER, r(0, 0, 0, 1, 6), r(0, 0, 0, 2, 7), r(0, 0, 0, 3, FULL));
            status(x, 16, 1);
            due("the last stays", x.letterOf(7, 3), 2);
            x.back();
            due("room again", x.letter(0, 0, 0, 3), 6);
        });
    }

    private static void mend() {
        promise(11, "TO (what 0), LENGTH (1) of a LETTER becomes v: what it was.", () -> {
            ReadOutAlongTheWay x = village();
            answers(x, MEND, r(0, 0, 8, 5), r(0, 0, 0, 8), r(0, 0, 0, 0), r(5, 1, 40, 5), r(5, 1, 1, 40), r(5, 1, 1, 1));
            answers(x, (y, v) -> y.letterOf(v[0], v[1]), r(0, 2, 0), r(0, 3, 10), r(5, 2, 2), r(5, 3, 1), r(1, 2, 7), r(4, 3, 7));
            due("who knows it then", x.whoKnows(0), 1);
        });
        promise(11, "BAD.", () -> {
            edges(Boundaries::village, MEND, r(0, 0, 1), r(0, 5), r(0, 1), r(0, 8));
            edges(Boundaries::village, MEND, r(0, 1, 1), r(0, 5), r(0, 1), r(1, 40));
            refused(BAD, Boundaries::fresh, MEND, r(0, 0, 0), r(0, 1, 1));
        });
    }

    private static void tell() {
        promise(12, "WIND (what 0), DRINK (1) of a HOUSE becomes v: what it was.", () -> {
            ReadOutAlongTheWay x = village();
            answers(x, TELL, r(0, 0, 9, 0), r(0, 0, 0, 9), r(8, 0, 9, 0), r(8, 1, 8, 0), r(8, 1, 0, 8), r(1, 1, 9, 8), r(1, 1, 9, 9));
            answers(x, (y, v) -> y.houseOf(v[0], v[1]), r(0, 0, 0), r(0, 1, 0), r(8, 0, 9), r(8, 1, 0), r(1, 0, 0), r(1, 1, 9));
            status(x, 4, 9);
        });
        promise(12, "BAD.", () -> {
            edges(Boundaries::village, TELL, r(0, 0, 0), r(0, 8), r(0, 1), r(0, 9));
            edges(Boundaries::village, TELL, r(0, 1, 0), r(0, 8), r(0, 1), r(0, 9));
        });
    }

    private static void code() {
        promise(13, "A HOUSE knows a CODE (0 to 9), or doesn't: whether it did (1, 0).", () -> {
            ReadOutAlongTheWay x = village();
            answers(x, KNOW, r(0, 0, 0), r(0, 0, 1), r(0, 9, 0), r(8, 9, 0), r(8, 9, 1));
            answers(x, FORGET, r(0, 0, 1), r(0, 0, 0), r(8, 0, 0), r(2, 3, 1));
            answers(x, (y, v) -> y.houseOf(v[0], 2), r(0, 512), r(8, 512), r(2, 0), r(1, 0));
        });
        promise(13, "BAD.", () -> {
            edges(Boundaries::village, KNOW, r(0, 0), r(0, 8), r(0, 9));
            edges(Boundaries::village, FORGET, r(2, 3), r(0, 8), r(0, 9));
            refused(BAD, Boundaries::village, FORGET, r(2, 35), r(2, -29));
        });
    }

    private static void coldAndWay() {
        promise(14, "COLD becomes v: what it was.", () -> {
            ReadOutAlongTheWay x = village();
            answers(x, COLD, r(9, 3), r(0, 9), r(0, 0), r(9, 0));
            status(x, 2, 9);
            due("left out", x.houseOf(0, 5), 3);
        });
        promise(14, "BAD.", () -> edges(Boundaries::village, COLD, r(0), r(0, 9)));
        promise(15, "The round goes BACK, or not: whether it did (1, 0).", () -> {
            ReadOutAlongTheWay x = village();
            Call way = (y, v) -> y.way(v[0] == 1);
            answers(x, way, r(0, 0), r(1, 0), r(1, 1));
            status(x, 3, 1);
            due("who knows it back", x.whoKnows(0), 480);
            answers(x, way, r(0, 1), r(0, 0));
            status(x, 3, 0);
            due("who knows it forth", x.whoKnows(0), 43);
        });
    }
}
