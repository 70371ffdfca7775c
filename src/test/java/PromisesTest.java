import java.util.function.Supplier;

/** Each promise by hand: ordinary inputs, its edges, and each refusal that it names, in order. */
public final class PromisesTest {
    private static final int BAD = Check.BAD;
    private static final int OTHER = Check.OTHER;
    private static final int NOTHING = Check.NOTHING;
    private static final int STUCK = Check.STUCK;
    private static final int FULL = Check.FULL;
    private static final int NONE = ReadOutAlongTheWay.NONE;
    private static final int MAX = Integer.MAX_VALUE;
    private static final int MIN = Integer.MIN_VALUE;

    private PromisesTest() {
    }

    public static void main(String[] args) {
        shelves();
        told();
        tape();
        seenOfIt();
        sought();
        toldRows();
        guessed();
        known();
        truth();
        Check.finish();
    }

    private static void due(String what, long got, long want) {
        Check.due(what, got, want);
    }

    // ---- 1 to 8

    private static void shelves() {
        p1NewObject();
        p2Row();
        p3Set();
        p4Copy();
        p5Element();
        p6Holds();
        p7Show();
        p8Says();
    }

    private static void p1NewObject() {
        ReadOutAlongTheWay x = Check.fresh();
        long[] want = {0, 8, 0, 0, 0, 0, 0, 0, 1, 0, NONE, NONE, 0, 0, 0, 0, 0};
        for (int what = 0; what < want.length; what++) {
            due("1: new, status " + what, x.status(what), want[what]);
        }
        for (int k = 0; k < 48; k++) {
            due("1: new, houseOf " + k, x.houseOf(k / 6, k % 6), 0);
        }
        for (int s = 0; s < 8; s++) {
            due("1: new, holds " + s, x.holds(s), NONE);
        }
        due("1: new, ninth house", x.houseOf(8, 0), BAD);
        due("1: new, first letter", x.letterOf(0, 0), BAD);
        due("1: new, no image", x.back(), STUCK);
        due("1: new, empty tape", x.lane(), -20);
    }

    private static void p2Row() {
        ReadOutAlongTheWay x = Check.village();
        for (int sort = 0; sort <= 4; sort++) {
            due("2: row", x.row(7, sort, 40), 1);
            due("2: row holds", x.holds(7), sort);
            due("2: last element", x.set(7, 39, 1), 1);
            due("2: no more elements", x.set(7, 40, 1), BAD);
        }
        due("2: row of none", x.row(7, 3, 0), 1);
        due("2: row of none has none", x.set(7, 0, 1), BAD);
        due("2: row again", x.row(7, 3, 40), 1);
        due("2: row again is 0", x.element(7, 39), 0);
        due("2: row over a row", x.row(0, 0, 6), 1);
        due("2: all new", x.element(0, 5), 0);
        due("2: row over a letter", x.row(3, 1, 1), 1);
        due("2: no letter then", x.holds(3), 1);
        int[][] bad = {{-1, 0, 0}, {8, 0, 0}, {0, -1, 0}, {0, 5, 0}, {0, 0, -1}, {0, 0, 41}, {MIN, MAX, MAX}, {5, 0, MIN}};
        for (int[] b : bad) {
            Check.refused("2: row bad", y -> y.row(b[0], b[1], b[2]), BAD);
        }
    }

    private static void p3Set() {
        long[][] kept = {
            {0, 300, 44}, {0, 128, -128}, {0, -129, 127}, {1, 70000, 4464}, {1, 32768, -32768},
            {2, (1L << 32) + 5, 5}, {2, 1L << 31, MIN}, {3, Long.MIN_VALUE, Long.MIN_VALUE}, {3, 1L << 40, 1L << 40},
            {4, -7, 1}, {4, 0, 0}, {4, 1L << 32, 1}, {4, 256, 1}};
        for (long[] k : kept) {
            ReadOutAlongTheWay x = Check.fresh();
            x.row(2, (int) k[0], 3);
            due("3: set", x.set(2, 1, k[1]), 1);
            due("3: kept as", x.element(2, 1), k[2]);
            due("3: the one ahead", x.element(2, 0), 0);
            due("3: the one behind", x.element(2, 2), 0);
        }
        ReadOutAlongTheWay x = Check.fresh();
        x.row(0, 4, 1);
        x.set(0, 0, 1);
        x.set(0, 0, 0);
        due("3: not so again", x.element(0, 0), 0);
        Check.refused("3: no shelf", y -> y.set(-1, 0, 0), BAD);
        Check.refused("3: no shelf", y -> y.set(8, 0, 0), BAD);
        Check.refused("3: a letter ahead of i", y -> y.set(3, -1, 0), OTHER);
        Check.refused("3: nothing ahead of i", y -> y.set(5, 99, 0), NOTHING);
        Check.refused("3: i", y -> y.set(0, -1, 9), BAD);
        Check.refused("3: i", y -> y.set(0, 6, 9), BAD);
        Check.refused("3: i", y -> y.set(0, MAX, 9), BAD);
    }

    private static void p4Copy() {
        copied("4: forward over itself", 0, 0, 0, 1, 5, new long[] {1, 1, 2, 3, 4, 5});
        copied("4: backward over itself", 0, 0, 1, 0, 5, new long[] {2, 3, 4, 5, 6, 6});
        copied("4: to another", 0, 1, 3, 0, 3, new long[] {4, 5, 6, 0});
        copied("4: into the middle", 0, 1, 4, 1, 2, new long[] {0, 5, 6, 0});
        copied("4: none at the ends", 0, 1, 6, 3, 0, new long[] {0, 0, 0, 0});
        copied("4: all", 0, 0, 0, 0, 6, new long[] {1, 2, 3, 4, 5, 6});
        int[][] bad = {{-1, 3, 0, 0, 0}, {3, -1, 0, 0, 0}, {8, 5, 0, 0, 0}, {5, 8, 0, 0, 0}, {0, 0, -1, 0, 1}, {0, 0, 0, -1, 1},
            {0, 0, 0, 0, -1}, {0, 0, 4, 0, 3}, {0, 1, 0, 1, 3}, {0, 0, 7, 0, 0}, {0, 0, 0, 7, 0}, {0, 0, MAX, 0, MAX},
            {0, 0, 0, MAX, 1}, {0, 0, 1, 0, MAX}, {0, 0, MIN, 0, MIN}, {0, 1, 0, 0, 4}, {1, 0, 0, 0, 4}};
        for (int[] b : bad) {
            Check.refused("4: copy bad", y -> y.copy(b[0], b[1], b[2], b[3], b[4]), BAD);
        }
        int[][] other = {{3, 0, -1, 0, 1}, {0, 3, 0, 0, 99}, {3, 5, 0, 0, 0}, {5, 3, 0, 0, 0}, {3, 3, 0, 0, 0}, {0, 2, 0, 0, -1}, {2, 0, 0, 0, 1}};
        for (int[] b : other) {
            Check.refused("4: copy other", y -> y.copy(b[0], b[1], b[2], b[3], b[4]), OTHER);
        }
        int[][] nothing = {{0, 5, 0, 0, 1}, {5, 0, 0, 0, -1}, {5, 7, 0, 0, 0}, {5, 5, -1, -1, -1}};
        for (int[] b : nothing) {
            Check.refused("4: copy nothing", y -> y.copy(b[0], b[1], b[2], b[3], b[4]), NOTHING);
        }
    }

    private static void copied(String what, int p, int q, int i, int j, int n, long[] want) {
        ReadOutAlongTheWay x = Check.village();
        due(what, x.copy(p, q, i, j, n), n);
        for (int k = 0; k < want.length; k++) {
            due(what + ", element " + k, x.element(q, k), want[k]);
        }
    }

    private static void p5Element() {
        Check.asked("5: first", x -> x.element(0, 0), 1);
        Check.asked("5: last", x -> x.element(0, 5), 6);
        Check.asked("5: long", x -> x.element(2, 3), Long.MAX_VALUE);
        int[][] none = {{0, -1}, {0, 6}, {0, MAX}, {0, MIN}, {3, 0}, {5, 0}, {-1, 0}, {8, 0}, {MAX, 0}};
        for (int[] n : none) {
            Check.asked("5: none", x -> x.element(n[0], n[1]), 0);
        }
    }

    private static void p6Holds() {
        int[] want = {0, 0, 3, 12, 4, NONE, 15, NONE};
        for (int s = 0; s < 8; s++) {
            int shelf = s;
            Check.asked("6: holds " + s, x -> x.holds(shelf), want[s]);
        }
        Check.asked("6: no shelf", x -> x.holds(-1), NONE);
        Check.asked("6: no shelf", x -> x.holds(8), NONE);
    }

    private static void p7Show() {
        ReadOutAlongTheWay x = Check.village();
        due("7: show", x.show(5, 0), 1);
        due("7: shown", x.holds(5), 10);
        due("7: over a row", x.show(0, 5), 1);
        due("7: shown", x.holds(0), 15);
        due("7: no row", x.element(0, 0), 0);
        due("7: nothing over a letter", x.show(0, NONE), 1);
        due("7: nothing", x.holds(0), NONE);
        due("7: nothing over a row", x.show(2, NONE), 1);
        due("7: nothing", x.holds(2), NONE);
        due("7: no row", x.element(2, 3), 0);
        due("7: nothing over nothing", x.show(7, NONE), 1);
        due("7: in use", x.status(9), 5);
        int[][] bad = {{-1, 0}, {8, 0}, {0, 6}, {0, -2}, {8, NONE}, {0, MAX}};
        for (int[] b : bad) {
            Check.refused("7: show bad", y -> y.show(b[0], b[1]), BAD);
        }
    }

    private static void p8Says() {
        int[][] want = {
            {1, OTHER, OTHER, OTHER, OTHER, OTHER}, {2, 7, OTHER, OTHER, OTHER, OTHER}, {3, OTHER, 11, OTHER, OTHER, OTHER},
            {4, 9, OTHER, 9, OTHER, OTHER}, {5, OTHER, 6, OTHER, 6, OTHER}, {6, OTHER, OTHER, OTHER, OTHER, 5}};
        for (int letter = 0; letter < 6; letter++) {
            for (int kind = 0; kind < 6; kind++) {
                ReadOutAlongTheWay x = Check.village();
                x.code(0, 3, true);
                x.code(0, 5, true);
                x.mend(4, 0, 1);
                x.mend(5, 0, 0);
                x.show(5, letter);
                due("8: letter " + letter + " says for kind " + kind, x.says(5, kind), want[letter][kind]);
            }
        }
        Check.asked("8: a of it", x -> x.says(3, 0), 3);
        Check.asked("8: nothing heard", x -> x.says(6, 5), 0);
        Check.refused("8: no shelf", y -> y.says(-1, 0), BAD);
        Check.refused("8: no shelf", y -> y.says(8, 0), BAD);
        Check.refused("8: kind ahead of nothing", y -> y.says(5, 6), BAD);
        Check.refused("8: kind ahead of a row", y -> y.says(0, -1), BAD);
        Check.refused("8: a row", y -> y.says(0, 0), OTHER);
        Check.refused("8: another kind", y -> y.says(3, 4), OTHER);
        Check.refused("8: another kind", y -> y.says(6, 1), OTHER);
        Check.refused("8: nothing", y -> y.says(5, 5), NOTHING);
    }

    // ---- 9 to 15

    private static void told() {
        p9Houses();
        p10Letter();
        p11Mend();
        p12Tell();
        p13Code();
        p14Cold();
        p15Way();
    }

    private static void p9Houses() {
        Check.asked("9: as many", x -> x.houses(9), 9);
        ReadOutAlongTheWay x = Check.village();
        due("9: more", x.houses(12), 9);
        due("9: more", x.status(1), 12);
        for (int what = 0; what < 4; what++) {
            due("9: all 0", x.houseOf(11, what), 0);
        }
        x.tell(11, 0, 5);
        x.tell(11, 1, 5);
        x.code(11, 1, true);
        x.back();
        due("9: fewer by what was kept", x.houses(12), 9);
        for (int what = 0; what < 4; what++) {
            due("9: all 0 again", x.houseOf(11, what), 0);
        }
        for (int n : new int[] {8, 13, 2, 1, 0, -1, MAX, MIN}) {
            Check.refused("9: houses bad", y -> y.houses(n), BAD);
        }
    }

    private static ReadOutAlongTheWay fullVillage() {
        ReadOutAlongTheWay x = Check.village();
        x.letter(5, 9, 8, 40);
        x.letter(0, 0, 0, 1);
        return x;
    }

    private static void p10Letter() {
        ReadOutAlongTheWay x = Check.village();
        due("10: the seventh", x.letter(5, 9, 8, 40), 6);
        due("10: the eighth", x.letter(0, 0, 0, 1), 7);
        int[] want = {5, 9, 8, 40, 0, 0, 0, 1};
        for (int k = 0; k < 8; k++) {
            due("10: as told", x.letterOf(6 + k / 4, k % 4), want[k]);
        }
        due("10: how many", x.status(0), 8);
        int[][] bad = {{-1, 0, 0, 1}, {6, 0, 0, 1}, {0, -1, 0, 1}, {0, 10, 0, 1}, {0, 0, -1, 1}, {0, 0, 9, 1}, {0, 0, 0, 0}, {0, 0, 0, 41}};
        for (int[] b : bad) {
            Check.refused("10: letter bad", y -> y.letter(b[0], b[1], b[2], b[3]), BAD);
            Check.refusedOf(PromisesTest::fullVillage, "10: bad ahead of full", y -> y.letter(b[0], b[1], b[2], b[3]), BAD);
        }
        Check.refusedOf(PromisesTest::fullVillage, "10: full", y -> y.letter(5, 9, 8, 40), FULL);
    }

    private static void p11Mend() {
        ReadOutAlongTheWay x = Check.village();
        due("11: to", x.mend(0, 0, 8), 5);
        due("11: to again", x.mend(0, 0, 0), 8);
        due("11: to is", x.letterOf(0, 2), 0);
        due("11: length", x.mend(5, 1, 40), 5);
        due("11: length again", x.mend(5, 1, 1), 40);
        due("11: length is", x.letterOf(5, 3), 1);
        due("11: to of it is as it was", x.letterOf(5, 2), 2);
        int[][] bad = {{-1, 0, 0}, {6, 0, 0}, {0, -1, 1}, {0, 2, 1}, {0, 0, -1}, {0, 0, 9}, {0, 1, 0}, {0, 1, 41}, {0, 1, -1}};
        for (int[] b : bad) {
            Check.refused("11: mend bad", y -> y.mend(b[0], b[1], b[2]), BAD);
        }
    }

    private static void p12Tell() {
        ReadOutAlongTheWay x = Check.village();
        due("12: wind", x.tell(2, 0, 9), 4);
        due("12: wind again", x.tell(2, 0, 0), 9);
        due("12: drink", x.tell(8, 1, 9), 0);
        due("12: drink again", x.tell(8, 1, 1), 9);
        due("12: wind is", x.houseOf(2, 0), 0);
        due("12: drink is", x.houseOf(8, 1), 1);
        due("12: wind of the other is as it was", x.houseOf(8, 0), 0);
        int[][] bad = {{-1, 0, 0}, {9, 0, 0}, {0, -1, 0}, {0, 2, 0}, {0, 0, -1}, {0, 0, 10}, {0, 1, -1}, {0, 1, 10}};
        for (int[] b : bad) {
            Check.refused("12: tell bad", y -> y.tell(b[0], b[1], b[2]), BAD);
        }
    }

    private static void p13Code() {
        ReadOutAlongTheWay x = Check.village();
        due("13: it did", x.code(2, 3, true), 1);
        due("13: another", x.code(2, 0, true), 0);
        due("13: bits", x.houseOf(2, 2), 9);
        due("13: forgets", x.code(2, 3, false), 1);
        due("13: bits", x.houseOf(2, 2), 1);
        due("13: didn't", x.code(2, 3, false), 0);
        due("13: the last", x.code(8, 9, true), 0);
        due("13: bits", x.houseOf(8, 2), 512);
        int[][] bad = {{-1, 0}, {9, 0}, {0, -1}, {0, 10}, {0, 32}};
        for (int[] b : bad) {
            Check.refused("13: code bad", y -> y.code(b[0], b[1], true), BAD);
            Check.refused("13: code bad", y -> y.code(b[0], b[1], false), BAD);
        }
    }

    private static void p14Cold() {
        ReadOutAlongTheWay x = Check.village();
        due("14: cold", x.cold(9), 3);
        due("14: cold again", x.cold(0), 9);
        due("14: cold is", x.status(2), 0);
        Check.refused("14: cold bad", y -> y.cold(-1), BAD);
        Check.refused("14: cold bad", y -> y.cold(10), BAD);
    }

    private static void p15Way() {
        ReadOutAlongTheWay x = Check.village();
        due("15: wasn't", x.way(true), 0);
        due("15: is", x.status(3), 1);
        due("15: was", x.way(true), 1);
        due("15: was", x.way(false), 1);
        due("15: isn't", x.status(3), 0);
        due("15: wasn't", x.way(false), 0);
    }

    // ---- 16 to 18

    private static void tape() {
        p16Feed();
        p17Wipe();
        p18LaneFits();
        p18LaneFaults();
        p18LaneRoom();
    }

    private static ReadOutAlongTheWay fullTape() {
        ReadOutAlongTheWay x = Check.fresh();
        for (int i = 1; i <= 8; i++) {
            x.letter(0, 0, 0, i);
        }
        x.image();
        x.show(3, 0);
        for (int i = 0; i < 250; i++) {
            x.feed(' ');
        }
        return x;
    }

    private static void p16Feed() {
        ReadOutAlongTheWay x = Check.village();
        due("16: least", x.feed(0), 7);
        due("16: greatest", x.feed(255), 8);
        due("16: size", x.status(7), 8);
        due("16: read so", x.lane(), -26);
        due("16: the last byte", fullTape().status(7), 250);
        for (int b : new int[] {-1, 256, MIN, MAX}) {
            Check.refused("16: feed bad", y -> y.feed(b), BAD);
            ReadOutAlongTheWay full = fullTape();
            due("16: bad ahead of full", full.feed(b), BAD);
            due("16: not full", full.status(16), 0);
        }
        ReadOutAlongTheWay full = fullTape();
        due("16: full", full.feed(32), FULL);
        due("16: full is counted", full.status(16), 1);
        due("16: full stays", full.status(7), 250);
    }

    private static void p17Wipe() {
        ReadOutAlongTheWay x = Check.village();
        due("17: size ahead", x.wipe(), 6);
        due("17: empty", x.status(7), 0);
        due("17: empty again", x.wipe(), 0);
        due("17: the first", x.feed('b'), 1);
        due("17: nothing of it is read", x.lane(), -20);
        due("17: full", fullTape().wipe(), 250);
    }

    private static ReadOutAlongTheWay fed(String text) {
        ReadOutAlongTheWay x = Check.fresh();
        Check.feed(x, text);
        return x;
    }

    private static void p18LaneFits() {
        ReadOutAlongTheWay x = fed("letter 5 9 7 40;drink 7 9; code 7 9 ;code 7 1;cold 9;back;houses 12;wind 11 9");
        due("18: all statements", x.lane(), 8);
        int[] letter = {5, 9, 7, 40};
        for (int what = 0; what < 4; what++) {
            due("18: letter", x.letterOf(0, what), letter[what]);
        }
        due("18: drink", x.houseOf(7, 1), 9);
        due("18: codes", x.houseOf(7, 2), 514);
        due("18: cold", x.status(2), 9);
        due("18: back", x.status(3), 1);
        due("18: houses", x.status(1), 12);
        due("18: wind of a new house", x.houseOf(11, 0), 9);
        due("18: tape is empty", x.status(7), 0);
        due("18: no refusal", x.status(12), 0);
        Check.feed(x, "forth;letter 0 0 11 01");
        due("18: to what there is", x.lane(), 2);
        due("18: forth", x.status(3), 0);
        due("18: second letter", x.letterOf(1, 3), 1);
        String[] single = {"cold3", "cold 03", "  cold   3  ", "cold 00", "back", "forth", "houses8", "houses 12", "wind0 0", "wind 00 00"};
        for (String text : single) {
            due("18: " + text, fed(text).lane(), 1);
        }
        due("18: back;back", fed("back;back").lane(), 2);
        StringBuilder wide = new StringBuilder("back");
        wide.append(" ".repeat(246));
        due("18: blanks to the end", fed(wide.toString()).lane(), 1);
    }

    private static void fault(String text, int place) {
        ReadOutAlongTheWay x = fed(text);
        due("18: " + text, x.lane(), -20 - place);
        due("18: refused", x.status(12), 1);
        due("18: empty then", x.status(7), 0);
        due("18: nothing of it", x.status(0) + x.status(2) + x.status(3) + x.status(4) + x.houseOf(0, 0) + x.houseOf(0, 2), 0);
        due("18: nothing of it", x.status(1), 8);
    }

    private static void p18LaneFaults() {
        fault("", 0);
        fault("   ", 3);
        fault("cold", 4);
        fault("cold ", 5);
        fault("cold 3;", 7);
        fault("cold 3 ; ", 9);
        fault("back;".repeat(50), 250);
        fault("cold 003", 5);
        fault("cold 000", 5);
        fault("cold 10", 5);
        fault("cold 99999999999", 5);
        fault("Cold 3", 0);
        fault("colds 3", 0);
        fault("col 3", 0);
        fault("3", 0);
        fault(";cold 3", 0);
        fault("cold 3!", 6);
        fault("cold -3", 5);
        fault("cold\t3", 4);
        fault("cold x", 5);
        fault("cold ;", 5);
        fault("cold 3 cold 4", 7);
        fault("cold 3;;", 7);
        fault("cold 3;4", 7);
        fault("cold 3 4", 7);
        fault("back1", 4);
        fault("backforth", 0);
        for (char strange : new char[] {0, '`', '{', '/', ':', '<', 31, 33, 127, 128, 255}) {
            fault("back" + strange, 4);
            fault(" " + strange, 1);
        }
        fault("wind 0 9;wind 0 10", 16);
        fault("drink 0 9;code 0 9;cold 5;back;houses 9;letter 0 0 9 1", 51);
        fault("houses 10;houses 9", 17);
        fault("houses 7", 7);
        fault("houses 13", 7);
        fault("wind 8 0", 5);
        fault("drink 8 0", 6);
        fault("code 8 0", 5);
        fault("code 0 10", 7);
        fault("letter 6 0 0 1", 7);
        fault("letter 0 10 0 1", 9);
        fault("letter 0 0 8 1", 11);
        fault("letter 0 0 0 0", 13);
        fault("letter 0 0 0 41", 13);
        fault("letter 0 0 0", 12);
        fault("letter 0 0;0 1", 10);
        fault("letter 6 A", 7);
    }

    private static void p18LaneRoom() {
        ReadOutAlongTheWay x = Check.fresh();
        for (int i = 0; i < 7; i++) {
            x.letter(0, 0, 0, 1);
        }
        Check.feed(x, "cold 4;letter 0 0 0 1;letter 0 0 0 1");
        due("18: no room", x.lane(), -42);
        due("18: none of them", x.status(0), 7);
        due("18: no cold", x.status(2), 0);
        due("18: BAD", x.status(12), 1);
        due("18: not FULL", x.status(16), 0);
        Check.feed(x, "letter 0 0 0 1");
        due("18: the eighth", x.lane(), 1);
        Check.feed(x, "letter 9 x");
        due("18: its word, whatever comes", x.lane(), -20);
        Check.feed(x, "back; letter");
        due("18: its word, though it ends", x.lane(), -26);
        due("18: not back", x.status(3), 0);
    }

    // ---- 19 to 28

    private static void seenOfIt() {
        p19LetterOf();
        p20HouseOf();
        p21Heard();
        p22IsRead();
        p23WhoKnows();
        p24Knows();
        p25First();
        p26Loudest();
        p27Words();
        p28Best();
    }

    private static ReadOutAlongTheWay turned() {
        ReadOutAlongTheWay x = Check.village();
        x.way(true);
        return x;
    }

    private static void p19LetterOf() {
        int[][] want = {{0, 1, 5, 10}, {1, 2, 7, 8}, {2, 3, 6, 12}, {3, 4, 4, 9}, {4, 5, 3, 7}, {5, 6, 2, 5}};
        for (int k = 0; k < 24; k++) {
            int at = k;
            Check.asked("19: letterOf " + k, x -> x.letterOf(at / 4, at % 4), want[k / 4][k % 4]);
        }
        int[][] bad = {{-1, 0}, {6, 0}, {0, -1}, {0, 4}};
        for (int[] b : bad) {
            Check.refused("19: letterOf bad", y -> y.letterOf(b[0], b[1]), BAD);
        }
    }

    private static void p20HouseOf() {
        int[][] want = {{0, 0, 0, 25, 0, 1}, {0, 8, 0, 25, 0, 1}, {4, 0, 8, 24, 8, 3}, {0, 0, 0, 25, 8, 3}, {9, 0, 0, 7, 8, 3},
            {0, 0, 0, 12, 8, 3}, {0, 0, 0, 14, 8, 3}, {0, 0, 0, 5, 8, 3}, {0, 0, 0, 0, 8, 3}};
        for (int k = 0; k < 54; k++) {
            int at = k;
            Check.asked("20: houseOf " + k, x -> x.houseOf(at / 6, at % 6), want[k / 6][k % 6]);
        }
        Check.askedOf(PromisesTest::turned, "20: back, tipsy", x -> x.houseOf(0, 4), 8);
        Check.askedOf(PromisesTest::turned, "20: back, its own not", x -> x.houseOf(1, 4), 0);
        Check.askedOf(PromisesTest::turned, "20: back, none ahead", x -> x.houseOf(8, 4), 0);
        ReadOutAlongTheWay x = Check.village();
        x.tell(2, 1, 3);
        x.cold(8);
        due("20: each is cut by itself", x.houseOf(3, 5), 4);
        due("20: tipsy of two", x.houseOf(3, 4), 11);
        int[][] bad = {{-1, 0}, {9, 0}, {0, -1}, {0, 6}};
        for (int[] b : bad) {
            Check.refused("20: houseOf bad", y -> y.houseOf(b[0], b[1]), BAD);
        }
    }

    private static final int[][] HEARD = {{9, 9, 3, 7, 0, 7, 0, 0, 0}, {7, 7, 3, 5, 1, 5, 5, 5, 0}, {0, 0, 5, 0, 0, 0, 9, 0, 0},
        {9, 9, 8, 9, 6, 0, 0, 0, 0}, {0, 0, 0, 4, 0, 0, 0, 0, 0}, {0, 0, 5, 0, 0, 0, 0, 0, 0}};

    private static void p21Heard() {
        for (int k = 0; k < 54; k++) {
            int at = k;
            Check.asked("21: heard " + k, x -> x.heard(at / 9, at % 9), HEARD[k / 9][k % 9]);
        }
        int[][] back = {{0, 0, 0, 0, 0, 9, 9, 9, 9}, {0, 0, 0, 0, 0, 0, 0, 7, 7}, {0, 0, 0, 0, 0, 0, 11, 0, 0},
            {0, 0, 0, 0, 8, 9, 9, 9, 9}, {0, 0, 0, 6, 0, 0, 0, 0, 0}, {0, 0, 5, 0, 0, 0, 0, 0, 0}};
        for (int k = 0; k < 54; k++) {
            due("21: heard, back " + k, turned().heard(k / 9, k % 9), back[k / 9][k % 9]);
        }
        loveAtAFar();
        ReadOutAlongTheWay x = Check.village();
        x.mend(3, 1, 1);
        due("21: plaint, length at most", x.heard(3, 4), 1);
        x.mend(3, 1, 5);
        due("21: plaint, 0 at least and a more", x.heard(3, 4), 4);
        x.tell(5, 0, 9);
        due("21: scolding, half of wind is cut", x.heard(1, 5), 1);
        int[][] bad = {{-1, 0}, {6, 0}, {0, -1}, {0, 9}};
        for (int[] b : bad) {
            Check.refused("21: heard bad", y -> y.heard(b[0], b[1]), BAD);
        }
    }

    private static void loveAtAFar() {
        ReadOutAlongTheWay x = Check.village();
        for (int house = 0; house < 9; house++) {
            x.code(house, 5, true);
            x.tell(house, 0, 0);
        }
        int[] forth = {0, 0, 4, 4, 0, 0};
        int[] back = {0, 0, 0, 6, 6, 0};
        for (int house = 0; house < 6; house++) {
            due("21: love forth at " + house, x.heard(4, house), forth[house]);
        }
        x.way(true);
        for (int house = 0; house < 6; house++) {
            due("21: love back at " + house, x.heard(4, house), back[house]);
        }
    }

    private static void p22IsRead() {
        for (int house = 0; house < 9; house++) {
            int h = house;
            Check.asked("22: isRead at " + h, x -> x.isRead(0, h), h <= 5 ? 1 : 0);
            Check.askedOf(PromisesTest::turned, "22: isRead back at " + h, x -> x.isRead(0, h), h >= 5 ? 1 : 0);
        }
        int[][] bad = {{-1, 0}, {6, 0}, {0, -1}, {0, 9}};
        for (int[] b : bad) {
            Check.refused("22: isRead bad", y -> y.isRead(b[0], b[1]), BAD);
        }
    }

    private static void p23WhoKnows() {
        int[] want = {43, 235, 64, 31, 8, 4};
        int[] back = {480, 384, 64, 496, 8, 4};
        for (int letter = 0; letter < 6; letter++) {
            int l = letter;
            Check.asked("23: whoKnows " + l, x -> x.whoKnows(l), want[l]);
            Check.askedOf(PromisesTest::turned, "23: whoKnows back " + l, x -> x.whoKnows(l), back[l]);
        }
        ReadOutAlongTheWay x = Check.village();
        x.mend(2, 1, 6);
        due("23: just half", x.whoKnows(2), 64);
        x.mend(2, 1, 5);
        due("23: less than half", x.whoKnows(2), 0);
        Check.refused("23: whoKnows bad", y -> y.whoKnows(-1), BAD);
        Check.refused("23: whoKnows bad", y -> y.whoKnows(6), BAD);
    }

    private static void p24Knows() {
        int[] want = {11, 11, 40, 27, 8, 3, 6, 2, 0};
        for (int house = 0; house < 9; house++) {
            int h = house;
            Check.asked("24: knows " + h, x -> x.knows(h), want[h]);
        }
        Check.refused("24: knows bad", y -> y.knows(-1), BAD);
        Check.refused("24: knows bad", y -> y.knows(9), BAD);
    }

    private static void p25First() {
        Check.asked("25: first", x -> x.first(0, 0), 0);
        Check.asked("25: last", x -> x.first(0, 1), 5);
        Check.asked("25: one alone", x -> x.first(2, 0), 6);
        Check.asked("25: one alone", x -> x.first(2, 1), 6);
        Check.askedOf(PromisesTest::turned, "25: back, first", x -> x.first(0, 0), 8);
        Check.askedOf(PromisesTest::turned, "25: back, last", x -> x.first(0, 1), 5);
        Supplier<ReadOutAlongTheWay> unheard = PromisesTest::unheard;
        Check.askedOf(unheard, "25: none is first", x -> x.first(4, 0), NONE);
        Check.askedOf(unheard, "25: none is last", x -> x.first(4, 1), NONE);
        int[][] bad = {{-1, 0}, {6, 0}, {0, -1}, {0, 2}};
        for (int[] b : bad) {
            Check.refused("25: first bad", y -> y.first(b[0], b[1]), BAD);
        }
    }

    private static ReadOutAlongTheWay unheard() {
        ReadOutAlongTheWay x = Check.village();
        x.mend(4, 1, 1);
        return x;
    }

    private static void p26Loudest() {
        int[] want = {0, 0, 3, 3, 3, 0, 2, 1, NONE};
        for (int house = 0; house < 9; house++) {
            int h = house;
            Check.asked("26: loudest " + h, x -> x.loudest(h), want[h]);
        }
        Check.askedOf(Check::fresh, "26: no letters", x -> x.loudest(0), NONE);
        Check.refused("26: loudest bad", y -> y.loudest(-1), BAD);
        Check.refused("26: loudest bad", y -> y.loudest(9), BAD);
    }

    private static void p27Words() {
        int[] want = {25, 25, 24, 25, 7, 12, 14, 5, 0};
        for (int house = 0; house < 9; house++) {
            int h = house;
            Check.asked("27: words " + h, x -> x.words(h), want[h]);
        }
        Check.refused("27: words bad", y -> y.words(-1), BAD);
        Check.refused("27: words bad", y -> y.words(9), BAD);
    }

    private static void p28Best() {
        Check.asked("28: best, of several the first", x -> x.best(0), 0);
        Check.asked("28: its words", x -> x.best(1), 25);
        Check.asked("28: fewest", x -> x.best(2), 8);
        ReadOutAlongTheWay x = Check.village();
        x.tell(0, 0, 9);
        x.tell(1, 0, 1);
        due("28: best", x.best(0), 3);
        x.houses(12);
        due("28: fewest, of several the first", x.best(2), 8);
        Check.askedOf(Check::fresh, "28: nothing at all", y -> y.best(2), 0);
        Check.refused("28: best bad", y -> y.best(-1), BAD);
        Check.refused("28: best bad", y -> y.best(3), BAD);
    }

    // ---- 29 to 32

    private static void sought() {
        p29Address();
        p30Hush();
        p30HushEdges();
        p31Seal();
        p32Shout();
    }

    private static void p29Address() {
        int[][] want = {{0, 43, 5}, {0, 1, 0}, {0, 3, 1}, {0, 11, 3}, {0, 4, NONE}, {0, 0, NONE}, {0, 511, NONE}, {5, 256, 8}, {2, 64, 6}, {2, 4, NONE}};
        for (int[] w : want) {
            Check.asked("29: address " + w[0] + " " + w[1], x -> x.address(w[0], w[1]), w[2]);
        }
        Check.askedOf(PromisesTest::unheard, "29: for none", x -> x.address(4, 0), 0);
        int[][] bad = {{-1, 0}, {6, 0}, {0, -1}, {0, 512}, {0, MIN}, {0, MAX}};
        for (int[] b : bad) {
            Check.refused("29: address bad", y -> y.address(b[0], b[1]), BAD);
        }
    }

    private static void hushed(Supplier<ReadOutAlongTheWay> made, int letter, int set, int much, int where) {
        Check.askedOf(made, "30: hush " + letter + " " + set, x -> x.hush(letter, set, 0), much);
        Check.askedOf(made, "30: hush where " + letter + " " + set, x -> x.hush(letter, set, 1), where);
    }

    private static void p30Hush() {
        hushed(Check::village, 0, 32, 12, 0);
        hushed(Check::village, 0, 8, NONE, NONE);
        hushed(Check::village, 0, 40, 12, 0);
        hushed(Check::village, 0, 1, NONE, NONE);
        hushed(Check::village, 0, 4, 0, NONE);
        hushed(Check::village, 0, 0, 0, NONE);
        hushed(Check::village, 0, 256, 0, NONE);
        hushed(Check::village, 3, 4, NONE, NONE);
        hushed(Check::village, 3, 20, 16, 0);
        hushed(Check::village, 3, 16, 8, 0);
        hushed(Check::village, 5, 4, NONE, NONE);
        hushed(PromisesTest::turned, 0, 32, 20, 6);
        hushed(PromisesTest::unheard, 4, 0, NONE, NONE);
        hushed(PromisesTest::unheard, 4, 8, 0, NONE);
        int[][] bad = {{-1, 0, 0}, {6, 0, 0}, {0, -1, 0}, {0, 512, 0}, {0, 0, -1}, {0, 0, 2}};
        for (int[] b : bad) {
            Check.refused("30: hush bad", y -> y.hush(b[0], b[1], b[2]), BAD);
        }
    }

    private static void p30HushEdges() {
        ReadOutAlongTheWay x = Check.village();
        x.tell(3, 0, 1);
        due("30: one ahead of to, to still knows", x.hush(0, 8, 0), 8);
        due("30: where", x.hush(0, 8, 1), 0);
        ReadOutAlongTheWay y = Check.fresh();
        y.letter(0, 0, 1, 19);
        y.letter(0, 0, 1, 20);
        due("30: the most that is poured", y.hush(0, 2, 0), 40);
        due("30: where", y.hush(0, 2, 1), 0);
        due("30: more would be needed", y.hush(1, 2, 0), NONE);
        due("30: nowhere", y.hush(1, 2, 1), NONE);
        y.tell(0, 1, 9);
        due("30: more on top of 9", y.hush(1, 2, 0), 35);
    }

    private static void p31Seal() {
        int[][] want = {{0, 43, 0}, {0, 47, 1}, {0, 32, 2}, {0, 63, NONE}, {0, 0, NONE}, {5, 4, 5}};
        for (int[] w : want) {
            Check.asked("31: seal " + w[0] + " " + w[1], x -> x.seal(w[0], w[1]), w[2]);
        }
        ReadOutAlongTheWay x = Check.village();
        x.tell(4, 0, 7);
        due("31: plaint", x.seal(0, 63), 3);
        x.code(0, 1, true);
        due("31: drains", x.seal(0, 33), 2);
        due("31: love", x.seal(0, 32), 4);
        x.tell(5, 0, 9);
        due("31: honeyed", x.seal(0, 32), 5);
        due("31: love for none", x.seal(0, 0), 4);
        int[][] bad = {{-1, 0}, {6, 0}, {0, -1}, {0, 512}};
        for (int[] b : bad) {
            Check.refused("31: seal bad", y -> y.seal(b[0], b[1]), BAD);
        }
    }

    private static void p32Shout() {
        int[][] want = {{0, 4, 24}, {0, 0, 2}, {0, 6, NONE}, {5, 2, 1}, {5, 1, NONE}, {3, 4, 1}, {2, 2, 14}, {2, 1, NONE}};
        for (int[] w : want) {
            Check.asked("32: shout " + w[0] + " " + w[1], x -> x.shout(w[0], w[1]), w[2]);
        }
        ReadOutAlongTheWay x = Check.village();
        for (int house = 0; house < 4; house++) {
            x.tell(house, 1, 9);
        }
        x.cold(6);
        due("32: the greatest", x.shout(0, 4), 40);
        x.cold(9);
        due("32: none", x.shout(0, 4), NONE);
        int[][] bad = {{-1, 0}, {6, 0}, {0, -1}, {0, 9}};
        for (int[] b : bad) {
            Check.refused("32: shout bad", y -> y.shout(b[0], b[1]), BAD);
        }
    }

    // ---- 33 to 36, 59

    private static void toldRows() {
        p33Lengths();
        p34Fits();
        p35Ask();
        p36Winds();
        p59Judge();
    }

    private static Supplier<ReadOutAlongTheWay> rowed(long... values) {
        return () -> {
            ReadOutAlongTheWay x = Check.village();
            Check.fill(x, 7, values);
            return x;
        };
    }

    private static void lengths(Supplier<ReadOutAlongTheWay> made, int n, int letter, int many, int least, int greatest) {
        int[] want = {many, least, greatest};
        for (int what = 0; what < 3; what++) {
            int w = what;
            Check.askedOf(made, "33: lengths " + letter + " by " + n + ", " + what, x -> x.lengths(7, n, letter, w), want[what]);
        }
    }

    private static void p33Lengths() {
        lengths(rowed(9, 9, 3), 1, 0, 1, 10, 10);
        lengths(rowed(9, 9, 3), 3, 0, 1, 10, 10);
        lengths(rowed(9, 9, 4), 3, 0, 0, NONE, NONE);
        lengths(rowed(9, 9, 4), 2, 0, 1, 10, 10);
        lengths(rowed(0), 1, 0, 1, 1, 1);
        lengths(rowed(40), 1, 0, 0, NONE, NONE);
        lengths(rowed(39), 1, 0, 1, 40, 40);
        lengths(rowed(), 0, 0, 40, 1, 40);
        lengths(rowed(0, 0, 7), 2, 5, 40, 1, 40);
        lengths(rowed(0, 0, 7), 3, 5, 1, 7, 7);
        lengths(rowed(0, 0, 0), 3, 2, 7, 1, 7);
        lengths(rowed(0, 0, 0, 0, 0, 0, 0), 7, 2, 3, 1, 3);
        lengths(rowed(0, 0, 0, 0, 0, 0, 0, 0, 0), 9, 2, 3, 1, 3);
        lengths(rowed((1L << 32) + 9), 1, 0, 0, NONE, NONE);
        int[][] bad = {{-1, 0, 0, 0}, {8, 0, 0, 0}, {5, -1, 0, 0}, {3, 10, 0, 0}, {5, 13, 0, 0}, {3, 0, -1, 0}, {5, 0, 6, 0}, {3, 0, 0, -1},
            {5, 0, 0, 3}, {0, 7, 0, 0}, {1, 4, 0, 0}};
        for (int[] b : bad) {
            Check.refused("33: lengths bad", y -> y.lengths(b[0], b[1], b[2], b[3]), BAD);
        }
        Check.refused("33: a letter", y -> y.lengths(3, 9, 0, 2), OTHER);
        Check.refused("33: nothing", y -> y.lengths(5, 9, 0, 2), NOTHING);
        Check.asked("33: any sort of row", y -> y.lengths(4, 1, 0, 0), 1);
        Check.asked("33: all of a row", y -> y.lengths(1, 3, 2, 2), 7);
    }

    private static void p34Fits() {
        Check.askedOf(rowed(9, 9, 3, 7, 0, 7), "34: kinds", x -> x.fits(7, 6, 0, 0), 1);
        Check.askedOf(rowed(9, 9, 3, 7, 0, 7), "34: tos", x -> x.fits(7, 6, 0, 1), 480);
        Check.askedOf(rowed(9, 9, 3, 7, 0, 7, 0, 0, 0), "34: kinds by all", x -> x.fits(7, 9, 0, 0), 1);
        Check.askedOf(rowed(9, 9, 3, 7, 0, 7, 0, 0, 0), "34: tos by all", x -> x.fits(7, 9, 0, 1), 32);
        Check.askedOf(rowed(0), "34: kinds by nothing heard", x -> x.fits(7, 1, 0, 0), 52);
        Check.askedOf(rowed(0), "34: tos by nothing heard", x -> x.fits(7, 1, 0, 1), 0);
        Check.askedOf(rowed(9), "34: kinds alike", x -> x.fits(7, 1, 0, 0), 3);
        Check.askedOf(rowed(), "34: all kinds", x -> x.fits(7, 0, 0, 0), 63);
        Check.askedOf(rowed(), "34: all tos", x -> x.fits(7, 0, 0, 1), 511);
        int[][] bad = {{-1, 0, 0, 0}, {8, 0, 0, 0}, {5, -1, 0, 0}, {3, 10, 0, 0}, {3, 0, -1, 0}, {5, 0, 6, 0}, {3, 0, 0, -1}, {5, 0, 0, 2}, {0, 7, 0, 0}};
        for (int[] b : bad) {
            Check.refused("34: fits bad", y -> y.fits(b[0], b[1], b[2], b[3]), BAD);
        }
        Check.refused("34: a letter", y -> y.fits(3, 9, 0, 1), OTHER);
        Check.refused("34: nothing", y -> y.fits(5, 9, 0, 1), NOTHING);
    }

    private static void p35Ask() {
        Check.askedOf(rowed(), "35: each parts them, the first", x -> x.ask(7, 0, 0), 0);
        Check.askedOf(rowed(), "35: to parts best", x -> x.ask(7, 0, 2), 6);
        Check.askedOf(rowed(0, 0, 0), "35: what is left", x -> x.ask(7, 3, 2), 6);
        Check.askedOf(rowed(0, 0, 0, 0, 0, 0, 0), "35: none parts them", x -> x.ask(7, 7, 2), 0);
        Check.askedOf(rowed(0, 0, 1), "35: one alone", x -> x.ask(7, 3, 2), NONE);
        Check.askedOf(rowed(5), "35: no length", x -> x.ask(7, 1, 2), NONE);
        Check.askedOf(rowed(), "35: honeyed", x -> x.ask(7, 0, 5), 2);
        int[][] bad = {{-1, 0, 0}, {8, 0, 0}, {5, -1, 0}, {3, 10, 0}, {3, 0, -1}, {5, 0, 6}, {0, 7, 0}};
        for (int[] b : bad) {
            Check.refused("35: ask bad", y -> y.ask(b[0], b[1], b[2]), BAD);
        }
        Check.refused("35: a letter", y -> y.ask(3, 9, 0), OTHER);
        Check.refused("35: nothing", y -> y.ask(5, 9, 0), NOTHING);
    }

    private static void p36Winds() {
        Check.askedOf(rowed(3), "36: one wind", x -> x.winds(7, 1, 2), 16);
        Check.askedOf(rowed(3, 3, 5, 8, 0, 5), "36: by all letters", x -> x.winds(7, 6, 2), 16);
        Check.askedOf(rowed(0), "36: several", x -> x.winds(7, 1, 2), 896);
        Check.askedOf(rowed(8), "36: none", x -> x.winds(7, 1, 2), 0);
        Check.askedOf(rowed(), "36: all", x -> x.winds(7, 0, 2), 1023);
        Check.askedOf(rowed(0, 5), "36: half of wind", x -> x.winds(7, 2, 6), 3);
        Check.askedOf(rowed(0, 0, 0, 0, 0, 0), "36: nothing is read there", x -> x.winds(7, 6, 8), 1023);
        int[][] bad = {{-1, 0, 0}, {8, 0, 0}, {5, -1, 0}, {3, 7, 0}, {3, 0, -1}, {5, 0, 9}, {1, 4, 0}};
        for (int[] b : bad) {
            Check.refused("36: winds bad", y -> y.winds(b[0], b[1], b[2]), BAD);
        }
        Check.refused("36: a letter", y -> y.winds(3, 6, 0), OTHER);
        Check.refused("36: nothing", y -> y.winds(5, 6, 0), NOTHING);
    }

    private static void p59Judge() {
        Check.askedOf(rowed(11, 11, 40, 27, 8, 3, 6, 2, 0), "59: all right", x -> x.judge(7, 9), NONE);
        Check.askedOf(rowed(11, 11, 40, 27, 8, 3, 6, 2, 0, 0), "59: one too many", x -> x.judge(7, 10), 9);
        Check.askedOf(rowed(11, 11, 40, 27, 8, 3, 6, 2, 0, 0), "59: those told alone", x -> x.judge(7, 9), NONE);
        Check.askedOf(rowed(11, 11, 40, 26, 8, 3, 6, 2, 0, 0), "59: wrong", x -> x.judge(7, 10), 3);
        Check.askedOf(rowed(11, 11, 40, 26), "59: few", x -> x.judge(7, 3), NONE);
        Check.askedOf(rowed(11 + (1L << 32)), "59: a long", x -> x.judge(7, 1), 0);
        Check.askedOf(rowed(), "59: none", x -> x.judge(7, 0), NONE);
        Check.askedOf(rowed(new long[40]), "59: many", x -> x.judge(7, 40), 0);
        int[][] bad = {{-1, 0}, {8, 0}, {5, -1}, {3, 41}, {0, 7}, {1, 40}};
        for (int[] b : bad) {
            Check.refused("59: judge bad", y -> y.judge(b[0], b[1]), BAD);
        }
        Check.refused("59: a letter", y -> y.judge(3, 40), OTHER);
        Check.refused("59: nothing", y -> y.judge(5, 40), NOTHING);
    }

    // ---- 37 to 49

    private static void guessed() {
        p37Pour();
        p38Answer();
        p39Chance();
        p40Sure();
        p41Turned();
        p42Gossips();
        p43Colds();
        p44Widest();
        p45To47WiseSecretLost();
        p48Reach();
        p49Lacks();
    }

    private static final int[][] BAD_POURING = {{-1, 1, 0, 0}, {9, 1, 0, 0}, {0, -1, 0, 0}, {0, 9, 0, 0}, {1, 1, 0, 0},
        {0, 1, -1, 0}, {0, 1, 6, 0}, {0, 1, 0, -1}, {0, 1, 0, 9}};

    private static void p37Pour() {
        int[][] want = {{0, 2, 0, 5, 5}, {1, 2, 0, 5, 7}, {2, 0, 0, 5, 5}, {3, 4, 0, 0, 9}, {2, 1, 0, 5, 7}, {0, 1, 0, 6, 0}, {5, 6, 0, 3, 7}, {0, 1, 5, 2, 5}};
        for (int[] w : want) {
            Check.asked("37: pour " + w[0] + " " + w[1], x -> x.pour(w[0], w[1], w[2], w[3], 0), w[4]);
            Check.asked("37: its drink " + w[0] + " " + w[1], x -> x.pour(w[0], w[1], w[2], w[3], 1), 0);
        }
        for (int[] b : BAD_POURING) {
            Check.refused("37: pour bad", y -> y.pour(b[0], b[1], b[2], b[3], 0), BAD);
        }
        Check.refused("37: what", y -> y.pour(0, 1, 0, 0, -1), BAD);
        Check.refused("37: what", y -> y.pour(0, 1, 0, 0, 2), BAD);
    }

    private static void p38Answer() {
        int[][] want = {{0, 2, 0, 5, 0, 8}, {0, 2, 0, 5, 3, 9}, {0, 2, 0, 5, 9, 7}, {1, 2, 0, 5, 0, 8}, {2, 1, 0, 5, 0, 8}, {2, 1, 0, 5, 3, 9},
            {3, 4, 0, 0, 9, 0}, {0, 1, 0, 6, 9, 0}, {0, 1, 5, 2, 0, 0}};
        for (int[] w : want) {
            Check.asked("38: answer " + w[0] + " " + w[1] + " " + w[4], x -> x.answer(w[0], w[1], w[2], w[3], w[4]), w[5]);
        }
        for (int[] b : BAD_POURING) {
            Check.refused("38: answer bad", y -> y.answer(b[0], b[1], b[2], b[3], 0), BAD);
        }
        Check.refused("38: v", y -> y.answer(0, 1, 0, 0, -1), BAD);
        Check.refused("38: v", y -> y.answer(0, 1, 0, 0, 10), BAD);
    }

    private static void p39Chance() {
        int[][] want = {{0, 5, 300000}, {0, 0, 500000}, {0, 6, 0}, {5, 2, 1000000}, {1, 5, 400000}, {0, 4, 300000}};
        for (int[] w : want) {
            Check.asked("39: chance " + w[0] + " " + w[1], x -> x.chance(w[0], w[1]), w[2]);
        }
        int[][] bad = {{-1, 0}, {6, 0}, {0, -1}, {0, 9}};
        for (int[] b : bad) {
            Check.refused("39: chance bad", y -> y.chance(b[0], b[1]), BAD);
        }
    }

    private static void p40Sure() {
        int[] want = {0, 0, 0, 4, 0, 0};
        for (int letter = 0; letter < 6; letter++) {
            int l = letter;
            Check.asked("40: sure " + l, x -> x.sure(l), want[l]);
        }
        ReadOutAlongTheWay x = Check.village();
        x.mend(0, 1, 20);
        due("40: long enough at two", x.sure(0), 2);
        x.mend(0, 1, 24);
        due("40: long enough at all but to", x.sure(0), 5);
        Check.refused("40: sure bad", y -> y.sure(-1), BAD);
        Check.refused("40: sure bad", y -> y.sure(6), BAD);
    }

    private static void p41Turned() {
        int[] want = {4, 2, 1, 5, 1, 1};
        int[] again = {4, 6, 1, 5, 1, 1};
        for (int letter = 0; letter < 6; letter++) {
            int l = letter;
            Check.asked("41: turned " + l, x -> x.turned(l), want[l]);
            Check.askedOf(PromisesTest::turned, "41: turned again " + l, x -> x.turned(l), again[l]);
        }
        Check.refused("41: turned bad", y -> y.turned(-1), BAD);
        Check.refused("41: turned bad", y -> y.turned(6), BAD);
    }

    private static void p42Gossips() {
        Check.asked("42: the first two", x -> x.gossips(), 1);
        ReadOutAlongTheWay x = Check.village();
        x.tell(0, 0, 9);
        due("42: one and three", x.gossips(), 103);
        x.tell(1, 0, 9);
        due("42: three and five", x.gossips(), 305);
        Check.askedOf(Check::fresh, "42: none", y -> y.gossips(), NONE);
        ReadOutAlongTheWay y = Check.fresh();
        y.letter(5, 0, 3, 4);
        y.letter(5, 0, 3, 4);
        due("42: one house alone", y.gossips(), NONE);
        y.houses(12);
        y.letter(2, 0, 11, 4);
        y.code(10, 0, true);
        due("42: the last two", y.gossips(), 1011);
    }

    private static void p43Colds() {
        int[][] want = {{0, 5, NONE}, {1, 5, 9}, {4, 3, 6}, {0, 2, 0}, {0, 8, 0}, {5, 2, NONE}};
        for (int[] w : want) {
            Check.asked("43: colds " + w[0] + " " + w[1], x -> x.colds(w[0], w[1]), w[2]);
        }
        int[][] bad = {{-1, 0}, {6, 0}, {0, -1}, {0, 9}};
        for (int[] b : bad) {
            Check.refused("43: colds bad", y -> y.colds(b[0], b[1]), BAD);
        }
    }

    private static void p44Widest() {
        int[][] want = {{0, 8, 7}, {5, 0, 1}, {4, 0, 1}, {3, 8, 9}};
        for (int[] w : want) {
            Check.asked("44: widest " + w[0], x -> x.widest(w[0], 0), w[1]);
            Check.asked("44: by how many " + w[0], x -> x.widest(w[0], 1), w[2]);
        }
        Check.askedOf(PromisesTest::turned, "44: back", x -> x.widest(0, 0), 0);
        Check.askedOf(PromisesTest::unheard, "44: none knows", x -> x.widest(4, 0), 0);
        Check.askedOf(PromisesTest::unheard, "44: none knows", x -> x.widest(4, 1), 0);
        int[][] bad = {{-1, 0}, {6, 0}, {0, -1}, {0, 2}};
        for (int[] b : bad) {
            Check.refused("44: widest bad", y -> y.widest(b[0], b[1]), BAD);
        }
    }

    private static void p45To47WiseSecretLost() {
        Check.asked("45: wise", x -> x.wise(), 192);
        Check.asked("46: secret", x -> x.secret(), 52);
        Check.asked("47: lost", x -> x.lost(), 0);
        Check.askedOf(Check::fresh, "45: no letters", x -> x.wise(), 0);
        Check.askedOf(Check::fresh, "46: no letters", x -> x.secret(), 0);
        Check.askedOf(Check::fresh, "47: no letters", x -> x.lost(), 0);
        ReadOutAlongTheWay x = Check.village();
        x.tell(5, 0, 9);
        x.mend(4, 1, 1);
        x.tell(7, 0, 9);
        due("45: one is not wise", x.wise(), 64);
        due("46: none knows it", x.secret(), 36);
        due("47: not to", x.lost(), 19);
        x.code(0, 3, true);
        due("46: another knows too", x.secret(), 32);
    }

    private static void p48Reach() {
        int[][] want = {{0, 5, 35}, {1, 8, 38}, {2, 2, 14}, {3, 5, 41}, {4, 1, 4}, {5, 1, 5}};
        for (int[] w : want) {
            Check.asked("48: reach " + w[0], x -> x.reach(w[0], 0), w[1]);
            Check.asked("48: together " + w[0], x -> x.reach(w[0], 1), w[2]);
        }
        int[][] bad = {{-1, 0}, {6, 0}, {0, -1}, {0, 2}};
        for (int[] b : bad) {
            Check.refused("48: reach bad", y -> y.reach(b[0], b[1]), BAD);
        }
    }

    private static void p49Lacks() {
        int[][] want = {{0, 2, 2}, {0, 4, 5}, {0, 0, 0}, {3, 8, 5}, {4, 0, 4}, {4, 3, 0}, {2, 2, 1}};
        for (int[] w : want) {
            Check.asked("49: lacks " + w[0] + " " + w[1], x -> x.lacks(w[0], w[1]), w[2]);
        }
        int[][] bad = {{-1, 0}, {6, 0}, {0, -1}, {0, 9}};
        for (int[] b : bad) {
            Check.refused("49: lacks bad", y -> y.lacks(b[0], b[1]), BAD);
        }
    }

    // ---- 50 to 58

    private static void known() {
        p50Alike();
        p51Quiet();
        p52Sober();
        p53Thirst();
        p54Taught();
        p55Merry();
        p56Common();
        p57Doubt();
        p58OfKind();
    }

    private static void p50Alike() {
        int[][] want = {{0, 1, 1}, {1, 0, 1}, {0, 2, 0}, {3, 3, 1}, {7, 8, 0}};
        for (int[] w : want) {
            Check.asked("50: alike " + w[0] + " " + w[1], x -> x.alike(w[0], w[1]), w[2]);
        }
        int[][] bad = {{-1, 0}, {9, 0}, {0, -1}, {0, 9}};
        for (int[] b : bad) {
            Check.refused("50: alike bad", y -> y.alike(b[0], b[1]), BAD);
        }
    }

    private static void p51Quiet() {
        int[] want = {NONE, NONE, NONE, NONE, NONE, 4, 4, 4, 0};
        for (int house = 0; house < 9; house++) {
            int h = house;
            Check.asked("51: quiet " + h, x -> x.quiet(h), want[h]);
        }
        ReadOutAlongTheWay x = Check.fresh();
        x.letter(0, 0, 0, 17);
        due("51: the greatest wind", x.quiet(0), 9);
        x.mend(0, 1, 18);
        due("51: no wind", x.quiet(0), NONE);
        Check.refused("51: quiet bad", y -> y.quiet(-1), BAD);
        Check.refused("51: quiet bad", y -> y.quiet(9), BAD);
    }

    private static void p52Sober() {
        int[] want = {5, 7, 2, 5, 1, 1};
        for (int letter = 0; letter < 6; letter++) {
            int l = letter;
            Check.asked("52: sober " + l, x -> x.sober(l), want[l]);
        }
        Check.refused("52: sober bad", y -> y.sober(-1), BAD);
        Check.refused("52: sober bad", y -> y.sober(6), BAD);
    }

    private static void p53Thirst() {
        int[] want = {6, 0, 6, 4, 3, 2, 1, 0, 0};
        for (int house = 0; house < 9; house++) {
            int h = house;
            Check.asked("53: thirst " + h, x -> x.thirst(h), want[h]);
        }
        Check.askedOf(Check::fresh, "53: no letters", x -> x.thirst(0), 0);
        Check.refused("53: thirst bad", y -> y.thirst(-1), BAD);
        Check.refused("53: thirst bad", y -> y.thirst(9), BAD);
    }

    private static void p54Taught() {
        int[][] want = {{2, 2, 0}, {2, 0, 1}, {2, 7, 0}, {2, 6, 1}, {4, 2, 0}, {4, 1, 0}, {0, 5, 1}, {0, 2, 0}};
        for (int[] w : want) {
            Check.asked("54: taught " + w[0] + " " + w[1], x -> x.taught(w[0], w[1]), w[2]);
        }
        ReadOutAlongTheWay x = Check.village();
        x.tell(2, 0, 0);
        due("54: love, one ahead", x.taught(4, 2), 1);
        due("54: it isn't so in truth", x.whoKnows(4), 8);
        int[][] bad = {{-1, 0}, {6, 0}, {0, -1}, {0, 9}};
        for (int[] b : bad) {
            Check.refused("54: taught bad", y -> y.taught(b[0], b[1]), BAD);
        }
    }

    private static void p55Merry() {
        Check.asked("55: merry", x -> x.merry(0), 1);
        Check.asked("55: alike, the first", x -> x.merry(5), 0);
        Check.refused("55: merry bad", y -> y.merry(-1), BAD);
        Check.refused("55: merry bad", y -> y.merry(6), BAD);
    }

    private static void p56Common() {
        int[][] want = {{0, 1, 43}, {0, 3, 11}, {2, 2, 64}, {4, 5, 0}};
        for (int[] w : want) {
            Check.asked("56: common " + w[0] + " " + w[1], x -> x.common(w[0], w[1]), w[2]);
        }
        int[][] bad = {{-1, 0}, {6, 0}, {0, -1}, {0, 6}};
        for (int[] b : bad) {
            Check.refused("56: common bad", y -> y.common(b[0], b[1]), BAD);
        }
    }

    private static void p57Doubt() {
        int[] want = {20, 20, 63, 0, 7, 3};
        for (int letter = 0; letter < 6; letter++) {
            int l = letter;
            Check.asked("57: doubt " + l, x -> x.doubt(l), want[l]);
        }
        Check.askedOf(PromisesTest::turned, "57: back", x -> x.doubt(2), 384);
        Check.refused("57: doubt bad", y -> y.doubt(-1), BAD);
        Check.refused("57: doubt bad", y -> y.doubt(6), BAD);
    }

    private static void p58OfKind() {
        ReadOutAlongTheWay x = Check.village();
        x.letter(3, 0, 0, 1);
        x.letter(3, 0, 0, 1);
        int[] want = {1, 1, 1, 3, 1, 1};
        for (int kind = 0; kind < 6; kind++) {
            due("58: ofKind " + kind, x.ofKind(kind), want[kind]);
            int k = kind;
            Check.asked("58: ofKind", y -> y.ofKind(k), 1);
        }
        Check.refused("58: ofKind bad", y -> y.ofKind(-1), BAD);
        Check.refused("58: ofKind bad", y -> y.ofKind(6), BAD);
    }

    // ---- 60 to 65

    private static void truth() {
        p60Round();
        p61Days();
        p62Seed();
        p63Image();
        p64Back();
        p65Status();
    }

    private static void p60Round() {
        ReadOutAlongTheWay x = Check.village();
        due("60: a second round", x.round(false), 274);
        due("60: ears", x.houseOf(2, 3), 48);
        due("60: days", x.status(6), 2);
        due("60: letters stay", x.status(0), 6);
        due("60: shelves stay", x.holds(3), 12);
        x.way(true);
        due("60: back", x.round(true), 390);
        due("60: ears", x.houseOf(8, 3), 25);
        due("60: days", x.status(6), 3);
        due("60: letters are gone", x.status(0), 0);
        due("60: shelf with one", x.holds(3), NONE);
        due("60: shelf with one", x.holds(6), NONE);
        due("60: shelf with a row", x.element(0, 5), 6);
        due("60: in use", x.status(9), 4);
        due("60: none is there", x.letterOf(0, 0), BAD);
        due("60: nothing more", x.round(false), 390);
        due("60: the first again", x.letter(1, 0, 0, 3), 0);
        due("60: kind of it", x.letterOf(0, 0), 1);
    }

    private static void p61Days() {
        ReadOutAlongTheWay x = Check.fresh();
        x.letter(0, 0, 7, 10);
        due("61: one day", x.days(1), 74);
        due("61: seed", x.status(8), -999580867);
        due("61: wind", x.houseOf(6, 0), 6);
        due("61: drink", x.houseOf(1, 1), 3);
        due("61: two more", x.days(2), 182);
        due("61: seed", x.status(8), 836760821);
        due("61: days", x.status(6), 3);
        due("61: letters stay", x.status(0), 1);
        due("61: ears", x.houseOf(4, 3), 20);
        ReadOutAlongTheWay y = Check.fresh();
        y.letter(0, 0, 7, 10);
        due("61: three at once", y.days(3), 182);
        ReadOutAlongTheWay z = Check.fresh();
        z.houses(9);
        z.seed(-7);
        z.days(2);
        due("61: by how many houses", z.status(8), 504149297);
        due("61: wind", z.houseOf(1, 0), 9);
        due("61: drink", z.houseOf(8, 1), 9);
        due("61: wind", z.houseOf(5, 0), 6);
        due("61: drink", z.houseOf(2, 1), 2);
        due("61: the most", z.days(60), 0);
        due("61: days", z.status(6), 62);
        for (int n : new int[] {0, -1, 61, MAX, MIN}) {
            Check.refused("61: days bad", w -> w.days(n), BAD);
        }
    }

    private static void p62Seed() {
        ReadOutAlongTheWay x = Check.fresh();
        due("62: at first", x.seed(5), 1);
        due("62: then", x.seed(MIN), 5);
        due("62: least", x.seed(MAX), MIN);
        due("62: is", x.status(8), MAX);
        x.seed(1);
        x.days(1);
        due("62: drawn by it", x.seed(-2), -999580867);
        due("62: nothing is refused", x.status(12), 0);
    }

    private static void p63Image() {
        ReadOutAlongTheWay x = Check.village();
        due("63: image", x.image(), 1);
        due("63: image again", x.image(), 1);
        x.cold(0);
        x.back();
        due("63: the last one is kept", x.status(2), 3);
        due("63: seed of it", x.status(8), 7);
        due("63: tape isn't in it", x.status(7), 6);
    }

    private static void p64Back() {
        ReadOutAlongTheWay x = Check.village();
        x.houses(12);
        x.tell(0, 0, 7);
        x.tell(0, 1, 7);
        x.code(0, 7, true);
        x.way(true);
        x.mend(0, 0, 8);
        x.mend(0, 1, 33);
        x.letter(0, 0, 0, 1);
        x.show(7, 6);
        x.days(4);
        x.cold(10);
        due("64: back", x.back(), 1);
        long[] want = {6, 9, 5, 0, 8, 137, 1, 6, 99, 6, NONE, NONE, 2, 0, 1, 0, 0};
        for (int what = 0; what < want.length; what++) {
            due("64: status " + what, x.status(what), want[what]);
        }
        due("64: wind", x.houseOf(0, 0), 0);
        due("64: codes", x.houseOf(0, 2), 0);
        due("64: ears", x.houseOf(0, 3), 25);
        due("64: to", x.letterOf(0, 2), 5);
        due("64: length", x.letterOf(0, 3), 10);
        due("64: a letter of the same number", x.holds(3), 12);
        due("64: one that is gone", x.holds(7), NONE);
        due("64: rows stay", x.element(0, 5), 6);
        x.round(true);
        x.letter(1, 0, 0, 1);
        x.show(7, 0);
        due("64: back again", x.back(), 1);
        due("64: letters", x.status(0), 6);
        due("64: that of the same number", x.holds(7), 10);
        due("64: gone ones aren't shown again", x.holds(3), NONE);
        Supplier<ReadOutAlongTheWay> noImage = Check::lane;
        Check.refusedOf(noImage, "64: stuck", y -> y.back(), STUCK);
    }

    private static void p65Status() {
        long[] want = {6, 9, 3, 0, 8, 137, 1, 6, 7, 6, NONE, NONE, 1, 0, 1, 0, 0, NONE};
        for (int what = 0; what < want.length; what++) {
            int w = what;
            Check.asked("65: status " + what, x -> x.status(w), want[what]);
        }
        for (int what : new int[] {-1, MAX, MIN}) {
            Check.asked("65: another", x -> x.status(what), NONE);
        }
        ReadOutAlongTheWay x = Check.fresh();
        x.back();
        x.row(0, 0, 1);
        x.letter(0, 0, 0, 1);
        x.show(1, 0);
        for (int i = 0; i < 7; i++) {
            x.letter(0, 0, 0, 1);
        }
        for (int i = 0; i < 3; i++) {
            x.set(1, 0, 0);
        }
        for (int i = 0; i < 4; i++) {
            x.set(2, 0, 0);
        }
        for (int i = 0; i < 5; i++) {
            x.letter(0, 0, 0, 1);
        }
        x.way(true);
        x.cold(-1);
        x.cold(-1);
        long[] counts = {2, 3, 4, 1, 5};
        for (int k = 0; k < 5; k++) {
            due("65: refusals " + k, x.status(12 + k), counts[k]);
        }
        due("65: back", x.status(3), 1);
    }
}
