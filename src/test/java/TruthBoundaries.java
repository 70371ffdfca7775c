/** Rounds in truth, draws and what is kept, sentence by sentence: promises 60 to 65 and the Terms of them. */
final class TruthBoundaries extends Boundaries {
    private static final Call HOUSE_OF = (x, v) -> x.houseOf(v[0], v[1]);
    private static final Call DAYS = (x, v) -> x.days(v[0]);
    private static final Call SEED = (x, v) -> x.seed(v[0]);
    private static final Call STATUS = (x, v) -> x.status(v[0]);
    private static final long INTS = 1L << 32;

    private TruthBoundaries() {
    }

    static void all() {
        ofRounds();
        ofDays();
        ofDraws();
        round();
        days();
        seed();
        image();
        back();
        backWithShelves();
        status();
        otherStatus();
    }

    /** The draws of the document, in numbers that have no sign, so that nothing wraps by itself. */
    private static final class Draws {
        private long seed;

        Draws(int seed) {
            this.seed = Math.floorMod(seed, INTS);
        }

        int below(int n) {
            seed = (seed * 1103515245L + 12345L) % INTS;
            return (int) (seed / 65536 % n);
        }

        int seed() {
            return (int) seed;
        }
    }

    // ---- the Terms

    private static void ofRounds() {
        terms("60", "IN TRUTH: a ROUND: EARS of each HOUSE are its WORDS more;", () -> {
            ReadOutAlongTheWay x = plain(5);
            x.letter(0, 0, 3, 2);
            due("all", x.round(false), 48);
            answers(x, HOUSE_OF, r(0, 3, 7), r(3, 3, 7), r(4, 3, 5), r(7, 3, 5));
            x.tell(0, 0, 9);
            x.tell(7, 0, 1);
            due("all", x.round(false), 48 + 40);
            answers(x, HOUSE_OF, r(0, 3, 7), r(3, 3, 14), r(4, 3, 10), r(7, 3, 9));
            x.way(true);
            due("all", x.round(true), 88 + 4 + 1 + 8);
            answers(x, HOUSE_OF, r(0, 3, 7), r(3, 3, 16), r(4, 3, 12), r(7, 3, 14));
        });
        terms("60, 65", "DAYS is 1 more;", () -> {
            ReadOutAlongTheWay x = fresh();
            x.round(false);
            status(x, 6, 1);
            x.round(true);
            status(x, 6, 2);
            x.days(1);
            status(x, 6, 3);
        });
        terms("60, 6, 8", "all LETTERS are gone then (there are none; SHELVES with one hold NOTHING), if told so.", () -> {
            ReadOutAlongTheWay x = village();
            x.round(false);
            status(x, 0, 6);
            due("a letter is still shown", x.holds(3), 12);
            due("it says what it is", x.says(3, 0), 3);
            due("they are heard in it", x.round(true), 3 * 137);
            status(x, 0, 0);
            due("none", x.letterOf(0, 0), BAD);
            due("nothing is shown", x.holds(3), NONE);
            due("nothing is shown", x.holds(6), NONE);
            due("rows stay", x.element(0, 5), 6);
            status(x, 9, 4);
            due("the first that comes", x.letter(0, 7, 0, 1), 0);
            due("it isn't shown", x.holds(3), NONE);
        });
    }

    private static void ofDays() {
        terms("61", "DAYS by draws, n: each: a HOUSE (a DRAW below how many) has a DRAW below 10 as WIND, a HOUSE (a DRAW below how many)"
            + " a DRAW below 10 as DRINK; a ROUND (LETTERS stay).", () -> {
                for (int houses : new int[] {8, 9, 12}) {
                    int[] windySeen = new int[houses];
                    int[] pouringSeen = new int[houses];
                    int[] windsSeen = new int[10];
                    int[] drinksSeen = new int[10];
                    for (int seed = -150; seed < 150; seed++) {
                        Draws draws = new Draws(seed);
                        int windy = draws.below(houses);
                        int wind = draws.below(10);
                        int pouring = draws.below(houses);
                        int drink = draws.below(10);
                        oneDay(houses, seed, r(windy, wind, pouring, drink));
                        windySeen[windy]++;
                        pouringSeen[pouring]++;
                        windsSeen[wind]++;
                        drinksSeen[drink]++;
                    }
                    for (int[] seen : new int[][] {windySeen, pouringSeen, windsSeen, drinksSeen}) {
                        for (int k = 0; k < seen.length; k++) {
                            Check.must(seen[k] > 0, k + " was never drawn");
                        }
                    }
                }
            });
    }

    /** A HONEYED letter is heard whole whatever is drawn, so that the round is seen by it. */
    private static void oneDay(int houses, int seed, int[] drawn) {
        ReadOutAlongTheWay x = fresh();
        x.houses(houses);
        x.letter(5, 0, 3, 7);
        x.seed(seed);
        due("seed " + seed + ", ears", x.days(1), 7);
        for (int house = 0; house < houses; house++) {
            due("seed " + seed + ", wind of " + house, x.houseOf(house, 0), house == drawn[0] ? drawn[1] : 0);
            due("seed " + seed + ", drink of " + house, x.houseOf(house, 1), house == drawn[2] ? drawn[3] : 0);
        }
        status(x, 0, 1);
        status(x, 6, 1);
    }

    private static void ofDraws() {
        terms("61, 62, 65", "A DRAW below n: SEED (1 at first) becomes SEED times 1103515245, and 12345 (an int, wrapping);", () -> {
            ReadOutAlongTheWay first = fresh();
            status(first, 8, 1);
            for (int seed : new int[] {1, 0, -1, 2, MIN, MAX, 65535, 65536, -65536}) {
                ReadOutAlongTheWay x = fresh();
                x.seed(seed);
                x.days(1);
                Draws draws = new Draws(seed);
                for (int k = 0; k < 4; k++) {
                    draws.below(8);
                }
                status(x, 8, draws.seed());
                x.days(60);
                for (int k = 0; k < 240; k++) {
                    draws.below(8);
                }
                status(x, 8, draws.seed());
            }
        });
        terms("61", "its upper 16 bits, no sign, modulo n.", () -> {
            int withSign = 0;
            int without = 0;
            for (int seed = 0; seed < 100; seed++) {
                Draws draws = new Draws(seed);
                int windy = draws.below(12);
                boolean sign = draws.seed() < 0;
                int wind = draws.below(10);
                if (wind == 0) {
                    continue;
                }
                withSign += sign ? 1 : 0;
                without += sign ? 0 : 1;
                ReadOutAlongTheWay x = fresh();
                x.houses(12);
                x.seed(seed);
                x.days(1);
                answers(x, HOUSE_OF, r(windy, 0, wind));
            }
            Check.must(withSign > 9 && without > 9, "only " + withSign + " draws had the sign, " + without + " hadn't");
        });
    }

    // ---- promises 60 to 62

    private static void round() {
        promise(60, "A ROUND in truth, LETTERS being gone then, or not: all EARS together.", () -> {
            ReadOutAlongTheWay x = village();
            due("not gone", x.round(false), 274);
            status(x, 5, 274);
            status(x, 6, 2);
            due("gone", x.round(true), 411);
            status(x, 0, 0);
            due("none are left to hear", x.round(true), 411);
            status(x, 5, 411);
            status(x, 6, 4);
            due("no letters at all", fresh().round(false), 0);
            ReadOutAlongTheWay y = fresh();
            y.houses(12);
            for (int k = 0; k < 8; k++) {
                y.letter(0, 0, 11, 40);
            }
            due("the most", y.round(false), 3840);
            due("the last hears all", y.houseOf(11, 3), 320);
        });
    }

    private static void days() {
        promise(61, "DAYS by draws (n 1 to 60): all EARS together.", () -> {
            ReadOutAlongTheWay at = plain(10);
            ReadOutAlongTheWay one = plain(10);
            int together = at.days(60);
            int last = 0;
            for (int day = 0; day < 60; day++) {
                last = one.days(1);
            }
            due("60 at once", together, last);
            Check.same("60 at once", at, one);
            ReadOutAlongTheWay x = fresh();
            x.letter(5, 0, 7, 40);
            answers(x, DAYS, r(1, 40), r(60, 61 * 40));
            status(x, 6, 61);
            status(x, 0, 1);
        });
        promise(61, "BAD.", () -> {
            edges(Boundaries::village, DAYS, r(1), r(1, 60));
            refused(BAD, Boundaries::village, DAYS, r(-1));
        });
    }

    private static void seed() {
        promise(62, "SEED becomes v: the one ahead.", () -> {
            ReadOutAlongTheWay x = fresh();
            answers(x, SEED, r(0, 1), r(-1, 0), r(MIN, -1), r(MAX, MIN), r(-6, MAX), r(-2, -6));
            status(x, 8, -2);
            unrefused(x);
            x.days(1);
            Draws draws = new Draws(-2);
            for (int k = 0; k < 4; k++) {
                draws.below(8);
            }
            due("the last one drawn", x.seed(5), draws.seed());
        });
    }

    // ---- promises 63 and 64

    /** All that is kept is told otherwise; nothing of it comes to shelves, tape or refusals. */
    private static void changeAll(ReadOutAlongTheWay x) {
        x.houses(12);
        for (int house = 0; house < 12; house++) {
            x.tell(house, 0, 7);
            x.tell(house, 1, 6);
            x.code(house, 8, true);
            x.code(house, 3, false);
        }
        x.cold(9);
        x.way(true);
        x.mend(0, 0, 11);
        x.mend(0, 1, 33);
        x.letter(5, 9, 11, 40);
        x.days(3);
        x.seed(12345);
    }

    private static void image() {
        promise(63, "All is kept, but THE TAPE, SHELVES and REFUSALS: 1.", () -> {
            ReadOutAlongTheWay x = village();
            due("image", x.image(), 1);
            changeAll(x);
            x.back();
            ReadOutAlongTheWay y = village();
            y.image();
            Check.same("all is kept", x, y);
            ReadOutAlongTheWay z = village();
            z.image();
            z.set(0, 0, 77);
            z.row(7, 3, 2);
            z.show(3, NONE);
            z.feed('9');
            z.cold(-1);
            z.back();
            due("a row as it is now", z.element(0, 0), 77);
            due("a shelf as it is now", z.holds(7), 3);
            due("a shelf as it is now", z.holds(3), NONE);
            status(z, 7, 7);
            status(z, 12, 2);
            due("the tape as it is now", z.lane(), -25);
        });
    }

    private static void back() {
        promise(64, "All is again as it was kept", () -> {
            ReadOutAlongTheWay x = village();
            changeAll(x);
            due("back", x.back(), 1);
            ReadOutAlongTheWay y = village();
            y.cold(5);
            y.seed(99);
            Check.same("as it was kept", x, y);
            ReadOutAlongTheWay z = fresh();
            z.image();
            changeAll(z);
            due("of a new one", z.back(), 1);
            z.cold(4);
            due("once more", z.back(), 1);
            status(z, 2, 0);
            z.cold(4);
            z.image();
            z.cold(5);
            due("the last that was kept", z.back(), 1);
            status(z, 2, 4);
        });
        promise(64, "STUCK: nothing was.", () -> {
            refused(STUCK, Check::lane, (x, v) -> x.back(), r());
            refused(STUCK, Boundaries::fresh, (x, v) -> x.back(), r());
            ReadOutAlongTheWay x = fresh();
            due("nothing was", x.back(), STUCK);
            x.image();
            due("something was", x.back(), 1);
            status(x, 15, 1);
        });
    }

    private static void backWithShelves() {
        promise(64, "(SHELVES with LETTERS hold those of the same numbers, or NOTHING): 1.", () -> {
            ReadOutAlongTheWay x = fresh();
            x.letter(0, 3, 0, 5);
            x.letter(0, 4, 0, 5);
            x.image();
            x.letter(0, 5, 0, 5);
            for (int k = 0; k < 3; k++) {
                x.show(k, k);
            }
            x.row(3, 3, 1);
            due("back", x.back(), 1);
            due("the first", x.holds(0), 10);
            due("the last that was kept", x.holds(1), 11);
            due("one behind it", x.holds(2), NONE);
            due("a row", x.holds(3), 3);
            status(x, 9, 3);
            x.round(true);
            due("gone", x.holds(1), NONE);
            x.letter(0, 9, 0, 5);
            x.show(1, 0);
            due("the new one says", x.says(1, 0), 9);
            x.back();
            due("of the same number", x.holds(1), 10);
            due("that one says", x.says(1, 0), 3);
            due("what was gone isn't shown again", x.holds(0), NONE);
            x.letter(0, 1, 0, 5);
            due("nor is a new one", x.holds(2), NONE);
            ReadOutAlongTheWay y = fresh();
            y.image();
            y.letter(0, 0, 0, 1);
            y.show(7, 0);
            y.back();
            due("none were kept", y.holds(7), NONE);
            status(y, 9, 0);
        });
    }

    // ---- promise 65

    private static void status() {
        promise(65, "LETTERS (0), HOUSES (1), COLD (2), BACK (3; 1, 0), SPENT (4), all EARS together (5), DAYS (6), THE TAPE's size (7), SEED (8),"
            + " SHELVES that hold something (9);", () -> {
                asked(Boundaries::fresh, STATUS, r(0, 0), r(1, 8), r(2, 0), r(3, 0), r(4, 0), r(5, 0), r(6, 0), r(7, 0), r(8, 1), r(9, 0));
                asked(Boundaries::village, STATUS, r(0, 6), r(1, 9), r(2, 3), r(3, 0), r(4, 8), r(5, 137), r(6, 1), r(7, 6), r(8, 7), r(9, 6));
                ReadOutAlongTheWay x = fresh();
                x.houses(12);
                for (int k = 0; k < 8; k++) {
                    x.letter(5, 0, 11, 40);
                    x.show(k, k);
                }
                x.cold(9);
                x.way(true);
                x.days(60);
                pouring(x, 0, 11, 9);
                x.seed(MIN);
                Check.feed(x, " ".repeat(250));
                answers(x, STATUS, r(0, 8), r(1, 12), r(2, 9), r(3, 1), r(4, 108), r(5, 19200), r(6, 60), r(7, 250), r(8, MIN), r(9, 8));
                x.seed(MAX);
                answers(x, STATUS, r(8, MAX));
            });
    }

    private static void otherStatus() {
        promise(65, "12 to 16: REFUSALS -2 to -6.", () -> {
            ReadOutAlongTheWay x = fresh();
            for (int k = 0; k < 8; k++) {
                x.letter(0, 0, 0, 1);
            }
            x.show(1, 0);
            int[] times = {2, 3, 4, 1, 5};
            for (int k = 0; k < 5; k++) {
                x.letter(0, 0, 0, 1);
                if (k < 2) {
                    x.cold(-1);
                }
                if (k < 3) {
                    x.set(1, 0, 0);
                }
                if (k < 4) {
                    x.set(2, 0, 0);
                }
                if (k < 1) {
                    x.back();
                }
            }
            for (int k = 0; k < 5; k++) {
                answers(x, STATUS, r(12 + k, times[k]));
            }
            asked(Boundaries::village, STATUS, r(12, 1), r(13, 0), r(14, 1), r(15, 0), r(16, 0));
        });
        promise(65, "NONE another what.", () -> {
            asked(Boundaries::village, STATUS, r(-1, NONE), r(10, NONE), r(11, NONE), r(17, NONE), r(MIN, NONE), r(MAX, NONE));
            asked(Boundaries::fresh, STATUS, r(-1, NONE), r(10, NONE), r(11, NONE), r(17, NONE));
        });
    }
}
