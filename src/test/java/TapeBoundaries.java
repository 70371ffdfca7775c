/** The tape, sentence by sentence: a LANE of the Terms, promises 16 to 18. */
final class TapeBoundaries extends Boundaries {
    private static final Call FEED = (x, v) -> x.feed(v[0]);
    private static final Call HOUSE_OF = (x, v) -> x.houseOf(v[0], v[1]);

    private TapeBoundaries() {
    }

    static void all() {
        tokens();
        statements();
        statementsOfALetter();
        statementsOfAHouse();
        statementsOfTheLane();
        allOrNothing();
        faults();
        feedAndWipe();
        lane();
    }

    /** Something of each sort is told, so that a lane that isn't one would be seen to change it. */
    private static ReadOutAlongTheWay settled() {
        ReadOutAlongTheWay x = fresh();
        x.letter(1, 2, 3, 4);
        x.tell(2, 0, 3);
        x.tell(3, 1, 4);
        x.code(1, 5, true);
        x.cold(6);
        x.way(true);
        x.image();
        x.cold(7);
        return x;
    }

    private static ReadOutAlongTheWay fullTape() {
        ReadOutAlongTheWay x = fresh();
        x.cold(1);
        x.image();
        Check.feed(x, "cold 8" + " ".repeat(244));
        return x;
    }

    /** The text is a lane of so many statements; the object is given back, so that it can be looked at. */
    private static ReadOutAlongTheWay reads(String text, int statements) {
        ReadOutAlongTheWay x = settled();
        Check.feed(x, text);
        due(text, x.lane(), statements);
        status(x, 7, 0);
        unrefused(x);
        return x;
    }

    /** The text has its fault at a place: that is BAD, and nothing is changed by what it tells. */
    private static void fault(String text, int place) {
        ReadOutAlongTheWay x = settled();
        Check.feed(x, text);
        due(text, x.lane(), -20 - place);
        status(x, 12, 1);
        status(x, 13, 0);
        status(x, 16, 0);
        Check.same(text, x, settled());
    }

    private static void tokens() {
        terms("16, 18", "A LANE is read from THE TAPE (bytes, 250 at most).", () -> {
            ReadOutAlongTheWay x = fresh();
            Check.feed(x, "cold 0;".repeat(35) + "cold");
            due("the last byte", x.feed('5'), 250);
            due("one more", x.feed('5'), FULL);
            status(x, 7, 250);
            due("all of it", x.lane(), 36);
            status(x, 2, 5);
        });
        terms("18", "TOKENS, each as long as can be:", () -> {
            reads("cold3", 1);
            fault("backforth", 0);
            fault("colds3", 0);
            fault("cold 12", 5);
            fault("cold3back", 5);
        });
        terms("18", "WORDS (a .. z),", () -> {
            for (char inside : new char[] {'a', 'z'}) {
                fault("back" + inside, 0);
            }
            for (char outside : new char[] {'`', '{', 'A', 'Z', 225}) {
                fault("back" + outside, 4);
            }
        });
        terms("18", "NUMBERS (digits),", () -> {
            for (char digit = '0'; digit <= '9'; digit++) {
                status(reads("cold " + digit, 1), 2, digit - '0');
            }
            for (char outside : new char[] {'/', ':', 176, 185}) {
                fault("cold " + outside, 5);
                fault("cold 1" + outside, 6);
            }
        });
        terms("18", "the SIGN ;", () -> {
            reads("back;forth", 2);
            fault("back:forth", 4);
            fault("back<forth", 4);
            fault("back,forth", 4);
            fault("back{forth", 4);
        });
        terms("18", "- blanks (32) may stand anywhere between.", () -> {
            reads("  cold  3  ;  back  ", 2);
            reads("cold3;back", 2);
            reads(" back", 1);
            reads("back ", 1);
            for (char outside : new char[] {31, 33, 9, 10, 0, 160}) {
                fault("cold" + outside + "3", 4);
            }
            fault("co ld 3", 0);
            fault("cold 0 3", 7);
        });
    }

    private static void statements() {
        terms("18", "STATEMENTS, one or more, with ; between:", () -> {
            fault("", 0);
            fault("  ", 2);
            reads("back", 1);
            reads("back;forth;back", 3);
            reads("back;".repeat(49) + "forth", 50);
            fault("back;", 5);
            fault(";back", 0);
            fault("back;;back", 5);
            fault("back back", 5);
        });
        terms("9, 18", "houses N (only as many or more);", () -> {
            fault("houses 7", 7);
            status(reads("houses 8", 1), 1, 8);
            ReadOutAlongTheWay x = reads("houses 12", 1);
            status(x, 1, 12);
            due("a house that came", x.houseOf(11, 0), 0);
            Check.feed(x, "houses 11");
            due("fewer than there are now", x.lane(), -27);
            status(x, 1, 12);
            fault("houses 13", 7);
            fault("houses 2", 7);
            fault("houses 10;houses 9", 17);
            status(reads("houses 10;houses 10;houses 11", 3), 1, 11);
        });
    }

    private static void statementsOfALetter() {
        terms("10, 18", "letter K A H L (TO, LENGTH);", () -> {
            Call of = (x, v) -> x.letterOf(1, v[0]);
            answers(reads("letter 0 0 0 1", 1), of, r(0, 0), r(1, 0), r(2, 0), r(3, 1));
            answers(reads("letter 5 9 7 40", 1), of, r(0, 5), r(1, 9), r(2, 7), r(3, 40));
            answers(reads("houses 9;letter 3 4 8 5", 2), of, r(0, 3), r(1, 4), r(2, 8), r(3, 5));
            fault("letter 6 0 0 1", 7);
            fault("letter 0 10 0 1", 9);
            fault("letter 0 0 8 1", 11);
            fault("letter 0 0 0 0", 13);
            fault("letter 0 0 0 41", 13);
            fault("houses 9;letter 3 4 9 5", 20);
            fault("letter 0 0 0 1 1", 15);
        });
    }

    private static void statementsOfAHouse() {
        terms("12, 18", "wind H N;", () -> {
            answers(reads("wind 0 9", 1), HOUSE_OF, r(0, 0, 9), r(0, 1, 0), r(2, 0, 3));
            answers(reads("wind 7 9;wind 7 0;wind 2 0", 3), HOUSE_OF, r(7, 0, 0), r(2, 0, 0));
            answers(reads("houses 9;wind 8 1", 2), HOUSE_OF, r(8, 0, 1));
            fault("wind 8 0", 5);
            fault("wind 0 10", 7);
        });
        terms("12, 18", "drink H N;", () -> {
            answers(reads("drink 0 9", 1), HOUSE_OF, r(0, 1, 9), r(0, 0, 0), r(3, 1, 4));
            answers(reads("drink 7 9;drink 7 0;drink 3 0", 3), HOUSE_OF, r(7, 1, 0), r(3, 1, 0));
            answers(reads("houses 9;drink 8 1", 2), HOUSE_OF, r(8, 1, 1));
            fault("drink 8 0", 6);
            fault("drink 0 10", 8);
        });
        terms("13, 18", "code H C;", () -> {
            answers(reads("code 0 0", 1), HOUSE_OF, r(0, 2, 1), r(1, 2, 32));
            answers(reads("code 7 9;code 1 5;code 1 0", 3), HOUSE_OF, r(7, 2, 512), r(1, 2, 33));
            answers(reads("houses 9;code 8 1", 2), HOUSE_OF, r(8, 2, 2));
            fault("code 8 0", 5);
            fault("code 0 10", 7);
        });
    }

    private static void statementsOfTheLane() {
        terms("14, 18", "cold N;", () -> {
            status(reads("cold 0", 1), 2, 0);
            status(reads("cold 9", 1), 2, 9);
            fault("cold 10", 5);
            fault("cold 1 1", 7);
        });
        terms("15, 18", "back; forth.", () -> {
            status(reads("forth", 1), 3, 0);
            status(reads("back", 1), 3, 1);
            status(reads("back;forth", 2), 3, 0);
            status(reads("forth;back", 2), 3, 1);
            fault("back 1", 5);
            fault("forth 1", 6);
        });
    }

    private static void allOrNothing() {
        terms("18", "All comes to what there is, or nothing.", () -> {
            String all = "houses 12;letter 0 0 11 1;wind 0 1;drink 0 1;code 0 1;cold 1;forth";
            ReadOutAlongTheWay x = reads(all, 7);
            status(x, 0, 2);
            status(x, 1, 12);
            status(x, 2, 1);
            status(x, 3, 0);
            status(x, 4, 5);
            due("the letter there was", x.letterOf(0, 3), 4);
            answers(x, HOUSE_OF, r(0, 0, 1), r(0, 1, 1), r(0, 2, 2), r(2, 0, 3), r(3, 1, 4), r(1, 2, 32));
            fault(all + ";", all.length() + 1);
            fault(all + ";x", all.length() + 1);
            fault(all + " 1", all.length() + 1);
        });
    }

    private static void faults() {
        terms("18", "The FAULT: the place of the first byte of the first TOKEN that can't stand there", () -> {
            fault("colt 3", 0);
            fault("3", 0);
            fault("  colt 3", 2);
            fault("cold back", 5);
            fault("cold ;", 5);
            fault("cold x;wind y", 5);
            fault("wind 0 cold 3", 7);
            fault("cold 3 wind", 7);
            fault("back;cold 10;bak", 10);
            fault("letter 0 0 0 wind", 13);
            fault("letter 6 10 8 41", 7);
        });
        terms("18", "(also a NUMBER that may not be,", () -> {
            status(reads("cold    9", 1), 2, 9);
            fault("cold    10", 8);
            fault("letter 0 0 0 00", 13);
            fault("wind 0 99", 7);
        });
        terms("18", "or has more than 2 digits;", () -> {
            status(reads("cold 09", 1), 2, 9);
            fault("cold 009", 5);
            fault("cold 000", 5);
            fault("cold 4294967299", 5);
            reads("wind 00 00;letter 05 09 07 01;code 00 09;drink 07 00", 4);
            fault("houses 008", 7);
            fault("letter 0 0 0 001", 13);
        });
        terms("10, 18", "what there is no room for: its word;", TapeBoundaries::noRoom);
        terms("18", "a byte that begins none);", () -> {
            for (char none : new char[] {0, 31, 33, '-', '/', ':', '<', '@', 'A', 'Z', '`', '{', 127, 128, 255}) {
                fault("" + none, 0);
                fault("back;" + none, 5);
                fault("cold " + none, 5);
            }
        });
        terms("18", "THE TAPE's size, if it ends too early.", () -> {
            fault("cold", 4);
            fault("cold ", 5);
            fault("back;", 5);
            fault("back; ", 6);
            fault("wind 0", 6);
            fault("letter 0 0 0", 12);
            fault("back;".repeat(50), 250);
            fault("cold" + " ".repeat(246), 250);
        });
    }

    private static void noRoom() {
        ReadOutAlongTheWay x = fresh();
        for (int k = 0; k < 7; k++) {
            x.letter(0, 0, 0, 1);
        }
        Check.feed(x, "cold 4;letter 0 0 0 1;letter 0 0 0 1");
        due("the second has none", x.lane(), -42);
        status(x, 0, 7);
        status(x, 2, 0);
        status(x, 12, 1);
        status(x, 16, 0);
        Check.feed(x, "cold 4;letter 0 0 0 1");
        due("the eighth has", x.lane(), 2);
        status(x, 0, 8);
        status(x, 2, 4);
        Check.feed(x, "back;letter 0 0 0 1");
        due("the ninth has none", x.lane(), -25);
        Check.feed(x, "letter 6 0 0 1");
        due("its word comes ahead of a number that may not be", x.lane(), -20);
        Check.feed(x, " letter");
        due("its word comes ahead of the end", x.lane(), -21);
        status(x, 3, 0);
        status(x, 12, 4);
    }

    // ---- promises 16 to 18

    private static void feedAndWipe() {
        promise(16, "THE TAPE gets one byte (0 to 255) behind it: its size.", () -> {
            ReadOutAlongTheWay x = village();
            answers(x, FEED, r(';', 7), r('b', 8), r('a', 9), r('c', 10), r('k', 11), r(0, 12), r(255, 13));
            status(x, 7, 13);
            due("read in their order", x.lane(), -31);
            answers(x, FEED, r(255, 1), r('b', 2));
            due("the first of them", x.lane(), -20);
        });
        promise(16, "BAD;", () -> {
            edges(Boundaries::village, FEED, r(0), r(0, 255));
            refused(BAD, TapeBoundaries::fullTape, FEED, r(-1), r(256));
        });
        promise(16, "FULL.", () -> {
            refused(FULL, TapeBoundaries::fullTape, FEED, r(0), r(255), r('1'));
            ReadOutAlongTheWay x = fullTape();
            x.wipe();
            due("room again", x.feed('b'), 1);
            Check.feed(x, "ack" + " ".repeat(245));
            due("the last", x.feed(' '), 250);
            due("one more", x.feed(' '), FULL);
        });
        promise(17, "THE TAPE is empty: its size ahead.", () -> {
            ReadOutAlongTheWay x = village();
            due("some", x.wipe(), 6);
            status(x, 7, 0);
            due("none", x.wipe(), 0);
            status(x, 2, 3);
            due("none is read", x.lane(), -20);
            due("the first", x.feed('b'), 1);
            due("all", fullTape().wipe(), 250);
            due("none at first", fresh().wipe(), 0);
        });
    }

    private static void lane() {
        promise(18, "THE TAPE is a LANE: how many STATEMENTS;", () -> {
            reads("back", 1);
            reads("back;cold 2", 2);
            reads("back;".repeat(49) + "back", 50);
            ReadOutAlongTheWay x = village();
            due("fed one by one", x.lane(), 1);
            status(x, 2, 8);
            Check.feed(x, "letter 0 0 0 1");
            due("a letter more", x.lane(), 1);
            due("those shown stay so", x.holds(3), 12);
            due("rows stay", x.element(0, 5), 6);
        });
        promise(18, "-20 less the FAULT (that is refused, too: BAD).", () -> {
            ReadOutAlongTheWay x = fresh();
            due("0", x.lane(), -20);
            status(x, 12, 1);
            Check.feed(x, " !");
            due("1", x.lane(), -21);
            status(x, 12, 2);
            Check.feed(x, "back;".repeat(50));
            due("250", x.lane(), -270);
            status(x, 12, 3);
            status(x, 13, 0);
            status(x, 14, 0);
            status(x, 15, 0);
            status(x, 16, 0);
        });
        promise(18, "THE TAPE is empty then, either way.", () -> {
            ReadOutAlongTheWay x = village();
            due("a lane", x.lane(), 1);
            status(x, 7, 0);
            due("nothing of it is left", x.lane(), -20);
            status(x, 7, 0);
            Check.feed(x, "cold 2;x");
            due("no lane", x.lane(), -27);
            status(x, 7, 0);
            due("the first", x.feed('b'), 1);
        });
    }
}
