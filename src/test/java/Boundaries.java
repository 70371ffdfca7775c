import java.util.Arrays;
import java.util.function.Supplier;

/** What the tests of single sentences share: short names, and numbers at both ends of what may be. */
abstract class Boundaries {
    static final int NONE = ReadOutAlongTheWay.NONE;
    static final int BAD = Check.BAD;
    static final int OTHER = Check.OTHER;
    static final int NOTHING = Check.NOTHING;
    static final int STUCK = Check.STUCK;
    static final int FULL = Check.FULL;
    static final int MAX = Integer.MAX_VALUE;
    static final int MIN = Integer.MIN_VALUE;

    /** A call by its numbers. */
    interface Call {
        long of(ReadOutAlongTheWay x, int[] v);
    }

    static void promise(int number, String words, Runnable test) {
        Doc.promise(number, words, test);
    }

    static void terms(String promises, String words, Runnable test) {
        Doc.terms(promises, words, test);
    }

    static void due(String what, long got, long want) {
        Check.due(what, got, want);
    }

    static int[] r(int... v) {
        return v;
    }

    static ReadOutAlongTheWay fresh() {
        return Check.fresh();
    }

    /** Nine houses, six letters: see Check. */
    static ReadOutAlongTheWay village() {
        return Check.village();
    }

    static ReadOutAlongTheWay fullVillage() {
        ReadOutAlongTheWay x = village();
        x.letter(5, 9, 8, 40);
        x.letter(0, 0, 0, 1);
        return x;
    }

    /** Eight houses without wind, drink or cold, and one LETTER to the last: all is heard at each. */
    static ReadOutAlongTheWay plain(int length) {
        ReadOutAlongTheWay x = fresh();
        x.letter(0, 0, 7, length);
        return x;
    }

    /** One word, and the cold leaves one out: nobody hears anything of it. */
    static ReadOutAlongTheWay unheard() {
        ReadOutAlongTheWay x = plain(1);
        x.cold(3);
        return x;
    }

    /** The village with rows of nine ints, all 0, in the first shelf and the last. */
    static ReadOutAlongTheWay shelved() {
        ReadOutAlongTheWay x = village();
        x.row(0, 2, 9);
        x.row(7, 2, 9);
        return x;
    }

    /** Each of some houses gets the same wind. */
    static void windy(ReadOutAlongTheWay x, int from, int to, int wind) {
        for (int house = from; house <= to; house++) {
            x.tell(house, 0, wind);
        }
    }

    static void pouring(ReadOutAlongTheWay x, int from, int to, int drink) {
        for (int house = from; house <= to; house++) {
            x.tell(house, 1, drink);
        }
    }

    /** Each row has the call's numbers and then the answer; nothing may be changed by asking. */
    static void asked(Supplier<ReadOutAlongTheWay> made, Call call, int[]... rows) {
        for (int[] row : rows) {
            int[] v = Arrays.copyOf(row, row.length - 1);
            Check.askedOf(made, Arrays.toString(v), x -> call.of(x, v), row[row.length - 1]);
        }
    }

    /** Each row has numbers with which the call is refused. */
    static void refused(int number, Supplier<ReadOutAlongTheWay> made, Call call, int[]... rows) {
        for (int[] v : rows) {
            Check.refusedOf(made, Arrays.toString(v), x -> call.of(x, v), number);
        }
    }

    static void allowed(Supplier<ReadOutAlongTheWay> made, Call call, int[]... rows) {
        for (int[] v : rows) {
            Check.allowed(made, Arrays.toString(v), x -> call.of(x, v));
        }
    }

    /**
     * Each number of a call by itself, the others as in base: the least and the greatest that may be
     * are not refused; one less, one more and the farthest are BAD.
     */
    static void edges(Supplier<ReadOutAlongTheWay> made, Call call, int[] base, int[]... ranges) {
        for (int k = 0; k < ranges.length; k++) {
            int least = ranges[k][0];
            int most = ranges[k][1];
            allowed(made, call, with(base, k, least), with(base, k, most));
            refused(BAD, made, call, with(base, k, least - 1), with(base, k, most + 1), with(base, k, MIN), with(base, k, MAX));
        }
    }

    private static int[] with(int[] base, int k, int v) {
        int[] all = base.clone();
        all[k] = v;
        return all;
    }

    /** Answers of one call of an object, one by one. */
    static void answers(ReadOutAlongTheWay x, Call call, int[]... rows) {
        for (int[] row : rows) {
            int[] v = Arrays.copyOf(row, row.length - 1);
            due(Arrays.toString(v), call.of(x, v), row[row.length - 1]);
        }
    }

    static void status(ReadOutAlongTheWay x, int what, int want) {
        due("status(" + what + ")", x.status(what), want);
    }

    /** No refusal of any number was counted. */
    static void unrefused(ReadOutAlongTheWay x) {
        for (int what = 12; what <= 16; what++) {
            status(x, what, 0);
        }
    }
}
