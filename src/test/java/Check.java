import java.util.ArrayList;
import java.util.List;
import java.util.function.Supplier;
import java.util.function.ToLongFunction;

/** What the tests of the promises share: a village, what can be seen of an object, and counting. */
final class Check {
    static final int BAD = -2;
    static final int OTHER = -3;
    static final int NOTHING = -4;
    static final int STUCK = -5;
    static final int FULL = -6;
    private static final int LANE_COUNT = 10;
    private static final int SEEN_ELEMENTS = 9;

    private static String heading = "";
    private static int wrong = 0;
    private static int checked = 0;

    private Check() {
    }

    /** What each line that tells of a wrong answer begins with from now on. */
    static void heading(String words) {
        heading = words;
    }

    static int checked() {
        return checked;
    }

    static void must(boolean is, String otherwise) {
        checked++;
        if (!is) {
            wrong++;
            System.out.println(heading + otherwise);
        }
    }

    static void due(String what, long got, long want) {
        must(got == want, what + " answered " + got + ", due is " + want);
    }

    static void finish() {
        System.out.println(wrong == 0 ? checked + " answers are as due" : wrong + " answers are not as due");
        if (wrong != 0) {
            System.exit(1);
        }
    }

    static ReadOutAlongTheWay fresh() {
        return new ReadOutAlongTheWay();
    }

    /**
     * Nine houses, a letter of each kind (number and kind are the same). Heard, by houses 0 on:
     * 0: 9 9 3 7 0 7, 1: 7 7 3 5 1 5 5 5, 2: 0 0 5 0 0 0 9, 3: 9 9 8 9 6, 4: 0 0 0 4, 5: 0 0 5.
     */
    static ReadOutAlongTheWay lane() {
        ReadOutAlongTheWay x = fresh();
        x.houses(9);
        x.letter(0, 1, 5, 10);
        x.letter(1, 2, 7, 8);
        x.letter(2, 3, 6, 12);
        x.letter(3, 4, 4, 9);
        x.letter(4, 5, 3, 7);
        x.letter(5, 6, 2, 5);
        x.tell(2, 0, 4);
        x.tell(4, 0, 9);
        x.tell(1, 1, 8);
        x.code(2, 3, true);
        x.cold(3);
        return x;
    }

    /** The lane with shelves in use, something on the tape, an image that is another, refusals. */
    static ReadOutAlongTheWay village() {
        ReadOutAlongTheWay x = lane();
        x.seed(99);
        x.round(false);
        x.cold(5);
        x.image();
        x.cold(3);
        x.seed(7);
        x.row(0, 0, 6);
        for (int i = 0; i < 6; i++) {
            x.set(0, i, i + 1);
        }
        x.row(1, 0, 3);
        x.row(2, 3, 4);
        x.set(2, 3, Long.MAX_VALUE);
        x.show(3, 2);
        x.row(4, 4, 2);
        x.show(6, 5);
        feed(x, "cold 8");
        x.cold(10);
        x.set(5, 0, 0);
        return x;
    }

    static void feed(ReadOutAlongTheWay x, String text) {
        for (int i = 0; i < text.length(); i++) {
            x.feed(text.charAt(i));
        }
    }

    static void fill(ReadOutAlongTheWay x, int s, long... values) {
        x.row(s, 3, values.length);
        for (int i = 0; i < values.length; i++) {
            x.set(s, i, values[i]);
        }
    }

    /**
     * All that calls tell of an object but how many refusals there were: the lane, the shelves, what
     * the tape reads as, what was kept, and what houses that come later begin with. The object is
     * spent by it; with what made it, it has to stay within 512 calls.
     */
    private static List<Long> seen(ReadOutAlongTheWay x) {
        List<Long> all = new ArrayList<>();
        seeLane(x, all);
        for (int s = 0; s < 8; s++) {
            all.add((long) x.holds(s));
            for (int i = 0; i < SEEN_ELEMENTS; i++) {
                all.add(x.element(s, i));
            }
        }
        all.add((long) x.lane());
        seeStatus(x, all);
        all.add((long) x.back());
        seeLane(x, all);
        x.houses(12);
        seeHouses(x, all);
        return all;
    }

    private static void seeLane(ReadOutAlongTheWay x, List<Long> all) {
        seeStatus(x, all);
        seeHouses(x, all);
        int letters = x.status(0);
        for (int k = 0; k < 4 * letters; k++) {
            all.add((long) x.letterOf(k / 4, k % 4));
        }
    }

    private static void seeStatus(ReadOutAlongTheWay x, List<Long> all) {
        for (int what = 0; what < LANE_COUNT; what++) {
            all.add((long) x.status(what));
        }
    }

    private static void seeHouses(ReadOutAlongTheWay x, List<Long> all) {
        int houses = x.status(1);
        for (int k = 0; k < 4 * houses; k++) {
            all.add((long) x.houseOf(k / 4, k % 4));
        }
    }

    /** Of two objects all that is seen is the same; both are spent by it. */
    static void same(String what, ReadOutAlongTheWay is, ReadOutAlongTheWay want) {
        List<Long> left = seen(is);
        List<Long> due = seen(want);
        must(left.equals(due), what + " left " + left + ", due is " + due);
    }

    /** How many refusals there were is as it was made, but for one more of a number (0: of none). */
    private static void counted(String what, ReadOutAlongTheWay x, ReadOutAlongTheWay made, int number) {
        for (int k = -2; k >= -6; k--) {
            due(what + ", refusals " + k, x.status(10 - k), made.status(10 - k) + (k == number ? 1 : 0));
        }
    }

    /** The call on a village has its answer, and nothing is changed by it. */
    static void asked(String what, ToLongFunction<ReadOutAlongTheWay> call, long want) {
        askedOf(Check::village, what, call, want);
    }

    static void askedOf(Supplier<ReadOutAlongTheWay> made, String what, ToLongFunction<ReadOutAlongTheWay> call, long want) {
        ReadOutAlongTheWay x = made.get();
        due(what, call.applyAsLong(x), want);
        counted(what, x, made.get(), 0);
        same(what, x, made.get());
    }

    /** The call on a village is refused, and nothing is changed but how many such refusals there were. */
    static void refused(String what, ToLongFunction<ReadOutAlongTheWay> call, int number) {
        refusedOf(Check::village, what, call, number);
    }

    static void refusedOf(Supplier<ReadOutAlongTheWay> made, String what, ToLongFunction<ReadOutAlongTheWay> call, int number) {
        ReadOutAlongTheWay x = made.get();
        due(what, call.applyAsLong(x), number);
        counted(what, x, made.get(), number);
        same(what, x, made.get());
    }

    /** The call is not refused, whatever else it answers. */
    static void allowed(Supplier<ReadOutAlongTheWay> made, String what, ToLongFunction<ReadOutAlongTheWay> call) {
        ReadOutAlongTheWay x = made.get();
        long got = call.applyAsLong(x);
        must(got >= ReadOutAlongTheWay.NONE, what + " answered " + got + ", due is no refusal");
        counted(what, x, made.get(), 0);
    }
}
