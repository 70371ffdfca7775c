import java.util.ArrayList;
import java.util.List;
import java.util.function.Supplier;
import java.util.function.ToLongFunction;

/** What the tests of the promises share: a village, what can be seen of an object, and counting. */
final class Check {
    static final int BAD = -2;
    static final int OTHER = -3;
    static final int NOTHING = -4;
    static final int STUCK = -5;
    static final int FULL = -6;
    private static final int FIRST_COUNT = 10;

    private static int wrong = 0;
    private static int checked = 0;

    private Check() {
    }

    static void due(String what, long got, long want) {
        checked++;
        if (got != want) {
            wrong++;
            System.out.println(what + " answered " + got + ", due is " + want);
        }
    }

    static void finish() {
        System.out.println(wrong == 0 ? checked + " answers are as due" : wrong + " answers are not as due");
        if (wrong != 0) {
            System.exit(1);
        }
    }

    static ReadOutAlongTheWay fresh() {
        return new ReadOutAlongTheWay();
    }

    /**
     * Nine houses, a letter of each kind (number and kind are the same). Heard, by houses 0 on:
     * 0: 9 9 3 7 0 7, 1: 7 7 3 5 1 5 5 5, 2: 0 0 5 0 0 0 9, 3: 9 9 8 9 6, 4: 0 0 0 4, 5: 0 0 5.
     */
    static ReadOutAlongTheWay lane() {
        ReadOutAlongTheWay x = fresh();
        x.houses(9);
        x.letter(0, 1, 5, 10);
        x.letter(1, 2, 7, 8);
        x.letter(2, 3, 6, 12);
        x.letter(3, 4, 4, 9);
        x.letter(4, 5, 3, 7);
        x.letter(5, 6, 2, 5);
        x.tell(2, 0, 4);
        x.tell(4, 0, 9);
        x.tell(1, 1, 8);
        x.code(2, 3, true);
        x.cold(3);
        return x;
    }

    /** The lane with shelves in use, something on the tape, an image that is another, refusals. */
    static ReadOutAlongTheWay village() {
        ReadOutAlongTheWay x = lane();
        x.seed(99);
        x.round(false);
        x.cold(5);
        x.image();
        x.cold(3);
        x.seed(7);
        x.row(0, 0, 6);
        for (int i = 0; i < 6; i++) {
            x.set(0, i, i + 1);
        }
        x.row(1, 0, 3);
        x.row(2, 3, 4);
        x.set(2, 3, Long.MAX_VALUE);
        x.show(3, 2);
        x.row(4, 4, 2);
        x.show(6, 5);
        feed(x, "cold 8");
        x.cold(10);
        x.set(5, 0, 0);
        return x;
    }

    static void feed(ReadOutAlongTheWay x, String text) {
        for (int i = 0; i < text.length(); i++) {
            x.feed(text.charAt(i));
        }
    }

    static void fill(ReadOutAlongTheWay x, int s, long... values) {
        x.row(s, 3, values.length);
        for (int i = 0; i < values.length; i++) {
            x.set(s, i, values[i]);
        }
    }

    /** All that calls tell of an object; the tape is read and the image brought back for it. */
    private static List<Long> seen(ReadOutAlongTheWay x) {
        List<Long> all = new ArrayList<>();
        seeLane(x, all);
        for (int s = 0; s < 8; s++) {
            all.add((long) x.holds(s));
            for (int i = 0; i < 7; i++) {
                all.add(x.element(s, i));
            }
        }
        all.add((long) x.lane());
        all.add((long) x.status(2));
        all.add((long) x.back());
        seeLane(x, all);
        return all;
    }

    private static void seeLane(ReadOutAlongTheWay x, List<Long> all) {
        for (int what = 0; what < FIRST_COUNT; what++) {
            all.add((long) x.status(what));
        }
        for (int what = 12; what <= 16; what++) {
            all.add((long) x.status(what));
        }
        int houses = x.status(1);
        int letters = x.status(0);
        for (int k = 0; k < 4 * houses; k++) {
            all.add((long) x.houseOf(k / 4, k % 4));
        }
        for (int k = 0; k < 4 * letters; k++) {
            all.add((long) x.letterOf(k / 4, k % 4));
        }
    }

    private static void same(String what, List<Long> is, List<Long> was) {
        checked++;
        if (!is.equals(was)) {
            wrong++;
            System.out.println(what + " left " + is + ", due is " + was);
        }
    }

    /** The call on a village has its answer, and nothing is changed by it. */
    static void asked(String what, ToLongFunction<ReadOutAlongTheWay> call, long want) {
        askedOf(Check::village, what, call, want);
    }

    static void askedOf(Supplier<ReadOutAlongTheWay> made, String what, ToLongFunction<ReadOutAlongTheWay> call, long want) {
        ReadOutAlongTheWay x = made.get();
        due(what, call.applyAsLong(x), want);
        same(what, seen(x), seen(made.get()));
    }

    /** The call on a village is refused, and nothing is changed but how many such refusals there were. */
    static void refused(String what, ToLongFunction<ReadOutAlongTheWay> call, int number) {
        refusedOf(Check::village, what, call, number, number);
    }

    static void refusedOf(Supplier<ReadOutAlongTheWay> made, String what, ToLongFunction<ReadOutAlongTheWay> call,
        long answer, int number) {
        ReadOutAlongTheWay x = made.get();
        due(what, call.applyAsLong(x), answer);
        for (int k = -2; k >= -6; k--) {
            int was = made.get().status(10 - k);
            due(what + ", refusals " + k, x.status(10 - k), k == number ? was + 1 : was);
        }
        ReadOutAlongTheWay other = made.get();
        refuseOnce(other, number);
        same(what, seen(x), seen(other));
    }

    /** A plain call of another kind that is refused with the same number, to compare with. */
    private static void refuseOnce(ReadOutAlongTheWay x, int number) {
        switch (number) {
            case BAD:
                x.cold(-1);
                break;
            case OTHER:
                x.set(3, 0, 0);
                break;
            case NOTHING:
                x.set(5, 0, 0);
                break;
            case STUCK:
                x.back();
                break;
            default:
                x.letter(0, 0, 0, 1);
        }
    }
}
