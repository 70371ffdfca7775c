/**
 * A lane of houses and the letters that are read aloud on the round till they are handed over.
 * The numbered promises of the document say what each call answers; a call that may not be is
 * refused with a number from -2 to -6 and changes nothing but how many refusals there were.
 */
public final class ReadOutAlongTheWay {
    public static final int NONE = -1;

    private static final int BAD = -2;
    private static final int OTHER = -3;
    private static final int NOTHING = -4;
    private static final int STUCK = -5;
    private static final int FULL = -6;
    private static final int REFUSAL_SORTS = 5;
    private static final int FITTING = 0;

    private static final int FIRST_HOUSES = 8;
    private static final int MOST_HOUSES = 12;
    private static final int MOST_LETTERS = 8;
    private static final int MOST_LENGTH = 40;
    private static final int MOST_POURED = 40;
    private static final int MOST_DAYS = 60;
    private static final int NINE = 9;

    private static final int LETTER = 0;
    private static final int SCOLDING = 1;
    private static final int DRAINS = 2;
    private static final int PLAINT = 3;
    private static final int LOVE = 4;
    private static final int HONEYED = 5;
    /** The kind that each kind stands under; LETTER stands under none. */
    private static final int[] UNDER = {-1, 0, 0, 1, 2, 0};

    private static final int SHELVES = 8;
    private static final int MOST_ELEMENTS = 40;
    private static final int BYTES = 0;
    private static final int SHORTS = 1;
    private static final int INTS = 2;
    private static final int BOOLEANS = 4;
    private static final int SHOWN = 10;

    private static final int TAPE_SIZE = 250;
    private static final int FAULT_BASE = -20;
    private static final int ALL_CHANCES = 1000000;

    private final Lane now;
    private final Lane kept;
    private final Guess guess;
    private final Shelf[] shelves;
    private final Tape tape;
    private final int[] refusals;
    private boolean isKept;

    public ReadOutAlongTheWay() {
        now = new Lane();
        kept = new Lane();
        guess = new Guess();
        shelves = new Shelf[SHELVES];
        for (int s = 0; s < SHELVES; s++) {
            shelves[s] = new Shelf();
        }
        tape = new Tape();
        refusals = new int[REFUSAL_SORTS];
        isKept = false;
    }

    // ---- shelves

    public int row(int s, int sort, int n) {
        if (noShelf(s) || outside(sort, BYTES, BOOLEANS) || outside(n, 0, MOST_ELEMENTS)) {
            return refuse(BAD);
        }
        shelves[s].takeRow(sort, n);
        return 1;
    }

    public int set(int s, int i, long v) {
        if (noShelf(s)) {
            return refuse(BAD);
        }
        int fault = shelves[s].rowFault(0);
        if (fault != FITTING) {
            return refuse(fault);
        }
        if (!shelves[s].hasElement(i)) {
            return refuse(BAD);
        }
        shelves[s].put(i, v);
        return 1;
    }

    public int copy(int p, int q, int i, int j, int n) {
        if (noShelf(p) || noShelf(q)) {
            return refuse(BAD);
        }
        Shelf from = shelves[p];
        Shelf to = shelves[q];
        if (from.holdsLetter() || to.holdsLetter()) {
            return refuse(OTHER);
        }
        boolean lacking = from.holdsNothing() || to.holdsNothing();
        if (!lacking && from.held != to.held) {
            return refuse(OTHER);
        }
        if (lacking) {
            return refuse(NOTHING);
        }
        if (!from.hasPart(i, n) || !to.hasPart(j, n)) {
            return refuse(BAD);
        }
        System.arraycopy(from.elements, i, to.elements, j, n);
        return n;
    }

    public long element(int s, int i) {
        if (noShelf(s)) {
            return 0;
        }
        return shelves[s].hasElement(i) ? shelves[s].elements[i] : 0;
    }

    public int holds(int s) {
        return noShelf(s) ? NONE : shelves[s].held;
    }

    public int show(int s, int letter) {
        if (noShelf(s) || (letter != NONE && noLetter(letter))) {
            return refuse(BAD);
        }
        if (letter == NONE) {
            shelves[s].clearOut();
        } else {
            shelves[s].takeLetter(letter);
        }
        return 1;
    }

    public int says(int s, int kind) {
        if (noShelf(s) || noKind(kind)) {
            return refuse(BAD);
        }
        if (shelves[s].holdsNothing()) {
            return refuse(NOTHING);
        }
        int letter = shelves[s].shownLetter();
        if (noLetter(letter) || !isOrStandsUnder(now.kind[letter], kind)) {
            return refuse(OTHER);
        }
        return kind == LETTER ? now.a[letter] : now.heardAt(letter, 0);
    }

    // ---- the lane as it is told

    public int houses(int n) {
        if (outside(n, now.houses, MOST_HOUSES)) {
            return refuse(BAD);
        }
        int was = now.houses;
        now.houses = n;
        return was;
    }

    public int letter(int kind, int a, int to, int length) {
        if (noKind(kind) || outside(a, 0, NINE) || noHouse(to) || outside(length, 1, MOST_LENGTH)) {
            return refuse(BAD);
        }
        if (!now.hasRoom()) {
            return refuse(FULL);
        }
        return now.addLetter(kind, a, to, length);
    }

    public int mend(int letter, int what, int v) {
        if (noLetter(letter) || outside(what, 0, 1)) {
            return refuse(BAD);
        }
        if (what == 0 ? noHouse(v) : outside(v, 1, MOST_LENGTH)) {
            return refuse(BAD);
        }
        int[] mended = what == 0 ? now.to : now.length;
        int was = mended[letter];
        mended[letter] = v;
        return was;
    }

    public int tell(int house, int what, int v) {
        if (noHouse(house) || outside(what, 0, 1) || outside(v, 0, NINE)) {
            return refuse(BAD);
        }
        int[] told = what == 0 ? now.wind : now.drink;
        int was = told[house];
        told[house] = v;
        return was;
    }

    public int code(int house, int code, boolean is) {
        if (noHouse(house) || outside(code, 0, NINE)) {
            return refuse(BAD);
        }
        int was = now.codes[house] >> code & 1;
        if (is) {
            now.learn(house, code);
        } else {
            now.codes[house] &= ~(1 << code);
        }
        return was;
    }

    public int cold(int v) {
        if (outside(v, 0, NINE)) {
            return refuse(BAD);
        }
        int was = now.cold;
        now.cold = v;
        return was;
    }

    public int way(boolean back) {
        int was = asNumber(now.back);
        now.back = back;
        return was;
    }

    // ---- the tape

    public int feed(int letter) {
        if (outside(letter, 0, 255)) {
            return refuse(BAD);
        }
        if (!tape.hasRoom()) {
            return refuse(FULL);
        }
        return tape.append(letter);
    }

    public int wipe() {
        return tape.empty();
    }

    public int lane() {
        int statements = tape.readInto(guess.freshFrom(now));
        int fault = tape.fault();
        tape.empty();
        if (fault != NONE) {
            refuse(BAD);
            return FAULT_BASE - fault;
        }
        now.takeFrom(guess.lane);
        return statements;
    }

    // ---- letters, houses and who knows what

    public int letterOf(int letter, int what) {
        if (noLetter(letter)) {
            return refuse(BAD);
        }
        switch (what) {
            case 0:
                return now.kind[letter];
            case 1:
                return now.a[letter];
            case 2:
                return now.to[letter];
            case 3:
                return now.length[letter];
            default:
                return refuse(BAD);
        }
    }

    public int houseOf(int house, int what) {
        if (noHouse(house)) {
            return refuse(BAD);
        }
        switch (what) {
            case 0:
                return now.wind[house];
            case 1:
                return now.drink[house];
            case 2:
                return now.codes[house];
            case 3:
                return now.ears[house];
            case 4:
                return now.tipsyAt(house);
            case 5:
                return now.leftOutAfter(now.tipsyAt(house));
            default:
                return refuse(BAD);
        }
    }

    public int heard(int letter, int house) {
        if (noLetter(letter) || noHouse(house)) {
            return refuse(BAD);
        }
        return now.heardAt(letter, house);
    }

    public int isRead(int letter, int house) {
        if (noLetter(letter) || noHouse(house)) {
            return refuse(BAD);
        }
        return asNumber(now.readAt(letter, house));
    }

    public int whoKnows(int letter) {
        return noLetter(letter) ? refuse(BAD) : now.knowers(letter);
    }

    public int knows(int house) {
        return noHouse(house) ? refuse(BAD) : now.knownAt(house);
    }

    public int first(int letter, int what) {
        if (noLetter(letter) || outside(what, 0, 1)) {
            return refuse(BAD);
        }
        return now.endKnower(letter, what == 0);
    }

    public int loudest(int house) {
        return noHouse(house) ? refuse(BAD) : now.loudestAt(house);
    }

    public int words(int house) {
        return noHouse(house) ? refuse(BAD) : now.wordsAt(house);
    }

    public int best(int what) {
        if (outside(what, 0, 2)) {
            return refuse(BAD);
        }
        if (what == 2) {
            return now.houseWithFewest();
        }
        int most = now.houseWithMost();
        return what == 0 ? most : now.wordsAt(most);
    }

    // ---- what to send to whom, where to pour

    public int address(int letter, int set) {
        if (noLetter(letter) || noSet(set)) {
            return refuse(BAD);
        }
        return guess.addressFor(now, letter, set);
    }

    public int hush(int letter, int set, int what) {
        if (noLetter(letter) || noSet(set) || outside(what, 0, 1)) {
            return refuse(BAD);
        }
        int poured = guess.leastHush(now, letter, set);
        if (what == 0 || poured == NONE) {
            return poured;
        }
        return guess.hushHouse(now, letter, set, poured);
    }

    public int seal(int letter, int set) {
        if (noLetter(letter) || noSet(set)) {
            return refuse(BAD);
        }
        return guess.sealFor(now, letter, set);
    }

    public int shout(int letter, int house) {
        if (noLetter(letter) || noHouse(house)) {
            return refuse(BAD);
        }
        return guess.leastLength(now, letter, house);
    }

    // ---- what fits a told row

    public int lengths(int s, int n, int letter, int what) {
        int fault = toldFault(s, n, letter, outside(what, 0, 2));
        if (fault != FITTING) {
            return refuse(fault);
        }
        int fitting = guess.markLengths(now, shelves[s], n, letter);
        if (what == 0) {
            return fitting;
        }
        return what == 1 ? guess.leastMarked() : guess.greatestMarked();
    }

    public int fits(int s, int n, int letter, int what) {
        int fault = toldFault(s, n, letter, outside(what, 0, 1));
        if (fault != FITTING) {
            return refuse(fault);
        }
        return what == 0
            ? guess.fittingKinds(now, shelves[s], n, letter)
            : guess.fittingTos(now, shelves[s], n, letter);
    }

    public int ask(int s, int n, int letter) {
        int fault = toldFault(s, n, letter, false);
        if (fault != FITTING) {
            return refuse(fault);
        }
        int fitting = guess.markLengths(now, shelves[s], n, letter);
        return fitting < 2 ? NONE : guess.bestParting(letter);
    }

    public int winds(int s, int n, int house) {
        if (noShelf(s) || outside(n, 0, now.letters) || noHouse(house)) {
            return refuse(BAD);
        }
        int fault = shelves[s].rowFault(n);
        if (fault != FITTING) {
            return refuse(fault);
        }
        return guess.fittingWinds(now, shelves[s], n, house);
    }

    // ---- whose drink decides

    public int pour(int much, int little, int letter, int house, int what) {
        if (noPouring(much, little, letter, house) || outside(what, 0, 1)) {
            return refuse(BAD);
        }
        int drink = guess.bestDrink(now, much, little, letter, house);
        if (what == 1) {
            return drink;
        }
        return guess.heardOfPoured(now, much, drink, little, letter, house);
    }

    public int answer(int much, int little, int letter, int house, int v) {
        if (noPouring(much, little, letter, house) || outside(v, 0, NINE)) {
            return refuse(BAD);
        }
        return guess.answerTo(now, much, v, little, letter, house);
    }

    // ---- how likely, and what if

    public int chance(int letter, int house) {
        if (noLetter(letter) || noHouse(house)) {
            return refuse(BAD);
        }
        return guess.windsOfKnowing(now, letter, house) * (ALL_CHANCES / (NINE + 1));
    }

    public int sure(int letter) {
        return noLetter(letter) ? refuse(BAD) : guess.sureKnowers(now, letter);
    }

    public int turned(int letter) {
        return noLetter(letter) ? refuse(BAD) : guess.knowersTurned(now, letter);
    }

    public int gossips() {
        int most = 0;
        int pair = NONE;
        for (int one = 0; one < now.houses; one++) {
            int known = now.knownAt(one);
            for (int two = one + 1; two < now.houses; two++) {
                int both = Integer.bitCount(known & now.knownAt(two));
                if (both > most) {
                    most = both;
                    pair = 100 * one + two;
                }
            }
        }
        return pair;
    }

    public int colds(int letter, int house) {
        if (noLetter(letter) || noHouse(house)) {
            return refuse(BAD);
        }
        return guess.leastCold(now, letter, house);
    }

    public int widest(int letter, int what) {
        if (noLetter(letter) || outside(what, 0, 1)) {
            return refuse(BAD);
        }
        int to = guess.widestTo(now, letter);
        return what == 0 ? to : guess.knowersIfTo(now, letter, to);
    }

    public int wise() {
        int bits = 0;
        for (int house = 0; house < now.houses; house++) {
            int read = now.lettersReadAt(house);
            if (read != 0 && now.knownAt(house) == read) {
                bits |= 1 << house;
            }
        }
        return bits;
    }

    public int secret() {
        int bits = 0;
        for (int letter = 0; letter < now.letters; letter++) {
            if (now.knowers(letter) == 1 << now.to[letter]) {
                bits |= 1 << letter;
            }
        }
        return bits;
    }

    public int lost() {
        int bits = 0;
        for (int letter = 0; letter < now.letters; letter++) {
            if (!now.isKnown(letter, now.to[letter])) {
                bits |= 1 << letter;
            }
        }
        return bits;
    }

    public int reach(int letter, int what) {
        if (noLetter(letter) || outside(what, 0, 1)) {
            return refuse(BAD);
        }
        int places = 0;
        int together = 0;
        for (int house = 0; house < now.houses; house++) {
            int heardHere = now.heardAt(letter, house);
            together += heardHere;
            places += asNumber(heardHere > 0);
        }
        return what == 0 ? places : together;
    }

    public int lacks(int letter, int house) {
        if (noLetter(letter) || noHouse(house)) {
            return refuse(BAD);
        }
        int needed = (now.length[letter] + 1) / 2;
        return Math.max(0, needed - now.heardAt(letter, house));
    }

    public int alike(int house, int other) {
        if (noHouse(house) || noHouse(other)) {
            return refuse(BAD);
        }
        return asNumber(now.knownAt(house) == now.knownAt(other));
    }

    public int quiet(int house) {
        return noHouse(house) ? refuse(BAD) : guess.leastQuietWind(now, house);
    }

    public int sober(int letter) {
        return noLetter(letter) ? refuse(BAD) : guess.knowersSober(now, letter);
    }

    public int thirst(int house) {
        if (noHouse(house)) {
            return refuse(BAD);
        }
        return now.allKnowers() - guess.allKnowersIfDrink(now, house, NINE);
    }

    public int taught(int letter, int house) {
        if (noLetter(letter) || noHouse(house)) {
            return refuse(BAD);
        }
        return asNumber(guess.isKnownIfTaught(now, letter, house));
    }

    public int merry(int letter) {
        return noLetter(letter) ? refuse(BAD) : guess.merriestHouse(now, letter);
    }

    public int common(int letter, int other) {
        if (noLetter(letter) || noLetter(other)) {
            return refuse(BAD);
        }
        return now.knowers(letter) & now.knowers(other);
    }

    public int doubt(int letter) {
        if (noLetter(letter)) {
            return refuse(BAD);
        }
        int bits = 0;
        for (int house = 0; house < now.houses; house++) {
            if (now.readAt(letter, house)) {
                bits |= 1 << house;
            }
        }
        return bits & ~now.knowers(letter);
    }

    public int ofKind(int kind) {
        if (noKind(kind)) {
            return refuse(BAD);
        }
        int count = 0;
        for (int letter = 0; letter < now.letters; letter++) {
            count += asNumber(now.kind[letter] == kind);
        }
        return count;
    }

    public int judge(int s, int n) {
        if (noShelf(s) || outside(n, 0, MOST_ELEMENTS)) {
            return refuse(BAD);
        }
        int fault = shelves[s].rowFault(n);
        if (fault != FITTING) {
            return refuse(fault);
        }
        for (int house = 0; house < n; house++) {
            if (house >= now.houses || shelves[s].elements[house] != now.knownAt(house)) {
                return house;
            }
        }
        return NONE;
    }

    // ---- in truth

    public int round(boolean gone) {
        now.goRound();
        if (gone) {
            now.letters = 0;
            dropMissingLetters();
        }
        return now.allEars();
    }

    public int days(int n) {
        if (outside(n, 1, MOST_DAYS)) {
            return refuse(BAD);
        }
        for (int day = 0; day < n; day++) {
            now.goDrawnDay();
        }
        return now.allEars();
    }

    public int seed(int v) {
        int was = now.seed;
        now.seed = v;
        return was;
    }

    public int image() {
        kept.takeFrom(now);
        isKept = true;
        return 1;
    }

    public int back() {
        if (!isKept) {
            return refuse(STUCK);
        }
        now.takeFrom(kept);
        dropMissingLetters();
        return 1;
    }

    public int status(int what) {
        switch (what) {
            case 0:
                return now.letters;
            case 1:
                return now.houses;
            case 2:
                return now.cold;
            case 3:
                return asNumber(now.back);
            case 4:
                return now.allDrink();
            case 5:
                return now.allEars();
            case 6:
                return now.days;
            case 7:
                return tape.size();
            case 8:
                return now.seed;
            case 9:
                return shelvesInUse();
            default:
                return outside(what, 12, 16) ? NONE : refusals[what - 12];
        }
    }

    // ---- what may be, and what is refused

    /** Counts a refusal and hands its number back, so that a call can answer with it. */
    private int refuse(int number) {
        if (!outside(number, FULL, BAD)) {
            refusals[BAD - number]++;
        }
        return number;
    }

    private static boolean outside(int v, int least, int most) {
        return v < least || v > most;
    }

    private boolean noShelf(int s) {
        return outside(s, 0, SHELVES - 1);
    }

    private boolean noHouse(int house) {
        return outside(house, 0, now.houses - 1);
    }

    private boolean noLetter(int letter) {
        return outside(letter, 0, now.letters - 1);
    }

    private static boolean noKind(int kind) {
        return outside(kind, LETTER, HONEYED);
    }

    private boolean noSet(int set) {
        return outside(set, 0, (1 << now.houses) - 1);
    }

    private boolean noPouring(int much, int little, int letter, int house) {
        return noHouse(much) || noHouse(little) || much == little || noLetter(letter) || noHouse(house);
    }

    /** What stands against a told row of what was heard of a letter at the first n houses. */
    private int toldFault(int s, int n, int letter, boolean badWhat) {
        if (noShelf(s) || outside(n, 0, now.houses) || noLetter(letter) || badWhat) {
            return BAD;
        }
        return shelves[s].rowFault(n);
    }

    private static boolean isOrStandsUnder(int own, int kind) {
        int k = own;
        for (int level = 0; level < UNDER.length && !noKind(k); level++) {
            if (k == kind) {
                return true;
            }
            k = UNDER[k];
        }
        return false;
    }

    private static int asNumber(boolean is) {
        return is ? 1 : 0;
    }

    private void dropMissingLetters() {
        for (int s = 0; s < SHELVES; s++) {
            if (shelves[s].holdsLetter() && noLetter(shelves[s].shownLetter())) {
                shelves[s].clearOut();
            }
        }
    }

    private int shelvesInUse() {
        int count = 0;
        for (int s = 0; s < SHELVES; s++) {
            count += asNumber(!shelves[s].holdsNothing());
        }
        return count;
    }

    /** Houses, letters and all that a round goes by; those who call look at the numbers first. */
    private static final class Lane {
        int houses = FIRST_HOUSES;
        final int[] wind = new int[MOST_HOUSES];
        final int[] drink = new int[MOST_HOUSES];
        final int[] codes = new int[MOST_HOUSES];
        final int[] ears = new int[MOST_HOUSES];
        int cold = 0;
        boolean back = false;
        int days = 0;
        int seed = 1;
        int letters = 0;
        final int[] kind = new int[MOST_LETTERS];
        final int[] a = new int[MOST_LETTERS];
        final int[] to = new int[MOST_LETTERS];
        final int[] length = new int[MOST_LETTERS];

        /** Copies houses beyond the last one too, so that those which come later begin with 0. */
        void takeFrom(Lane other) {
            houses = other.houses;
            System.arraycopy(other.wind, 0, wind, 0, MOST_HOUSES);
            System.arraycopy(other.drink, 0, drink, 0, MOST_HOUSES);
            System.arraycopy(other.codes, 0, codes, 0, MOST_HOUSES);
            System.arraycopy(other.ears, 0, ears, 0, MOST_HOUSES);
            cold = other.cold;
            back = other.back;
            days = other.days;
            seed = other.seed;
            letters = other.letters;
            System.arraycopy(other.kind, 0, kind, 0, MOST_LETTERS);
            System.arraycopy(other.a, 0, a, 0, MOST_LETTERS);
            System.arraycopy(other.to, 0, to, 0, MOST_LETTERS);
            System.arraycopy(other.length, 0, length, 0, MOST_LETTERS);
        }

        boolean hasRoom() {
            return letters < MOST_LETTERS;
        }

        int addLetter(int newKind, int newA, int newTo, int newLength) {
            if (!hasRoom()) {
                return NONE;
            }
            int number = letters;
            kind[number] = newKind;
            a[number] = newA;
            to[number] = newTo;
            length[number] = newLength;
            letters = number + 1;
            return number;
        }

        void learn(int house, int code) {
            codes[house] |= 1 << code;
        }

        /** The house to which the round comes at a step, counted from 0. */
        int houseAtStep(int step) {
            return back ? houses - 1 - step : step;
        }

        boolean readAt(int letter, int house) {
            return back ? house >= to[letter] : house <= to[letter];
        }

        int tipsyAt(int house) {
            int first = back ? house + 1 : 0;
            int behind = back ? houses : house;
            int tipsy = 0;
            for (int h = first; h < behind; h++) {
                tipsy += drink[h];
            }
            return tipsy;
        }

        int leftOutAfter(int tipsy) {
            return tipsy / 4 + cold / 3;
        }

        int heardAt(int letter, int house) {
            return heardWith(letter, house, leftOutAfter(tipsyAt(house)));
        }

        private int heardWith(int letter, int house, int leftOut) {
            if (!readAt(letter, house)) {
                return 0;
            }
            int all = length[letter];
            int plain = within(all - wind[house] - leftOut, all);
            int scolded = within(all - wind[house] / 2 - leftOut, all);
            switch (kind[letter]) {
                case SCOLDING:
                    return scolded;
                case PLAINT:
                    return within(scolded + a[letter], all);
                case DRAINS:
                    return understands(letter, house) ? plain : 0;
                case LOVE:
                    return understands(letter, house) && isNearTo(letter, house) ? plain : 0;
                case HONEYED:
                    return house == to[letter] ? all : 0;
                default:
                    return plain;
            }
        }

        private static int within(int words, int all) {
            if (words < 0) {
                return 0;
            }
            return words > all ? all : words;
        }

        private boolean understands(int letter, int house) {
            return house == to[letter] || (codes[house] >> a[letter] & 1) == 1;
        }

        private boolean isNearTo(int letter, int house) {
            return Math.abs(to[letter] - house) <= 1;
        }

        boolean isKnown(int letter, int house) {
            return 2 * heardAt(letter, house) >= length[letter];
        }

        /** Houses (bits) that know a letter; tipsy grows along the way, so one walk is enough. */
        int knowers(int letter) {
            int bits = 0;
            int tipsy = 0;
            for (int step = 0; step < houses; step++) {
                int house = houseAtStep(step);
                if (2 * heardWith(letter, house, leftOutAfter(tipsy)) >= length[letter]) {
                    bits |= 1 << house;
                }
                tipsy += drink[house];
            }
            return bits;
        }

        int allKnowers() {
            int count = 0;
            for (int letter = 0; letter < letters; letter++) {
                count += Integer.bitCount(knowers(letter));
            }
            return count;
        }

        /** Letters (bits) that a house knows. */
        int knownAt(int house) {
            int leftOut = leftOutAfter(tipsyAt(house));
            int bits = 0;
            for (int letter = 0; letter < letters; letter++) {
                if (2 * heardWith(letter, house, leftOut) >= length[letter]) {
                    bits |= 1 << letter;
                }
            }
            return bits;
        }

        int lettersReadAt(int house) {
            int bits = 0;
            for (int letter = 0; letter < letters; letter++) {
                if (readAt(letter, house)) {
                    bits |= 1 << letter;
                }
            }
            return bits;
        }

        /** The first or the last house by the way of the round that knows a letter, or NONE. */
        int endKnower(int letter, boolean wantsFirst) {
            int known = knowers(letter);
            int found = NONE;
            for (int step = 0; step < houses; step++) {
                int house = houseAtStep(step);
                if ((known >> house & 1) == 1) {
                    found = house;
                    if (wantsFirst) {
                        break;
                    }
                }
            }
            return found;
        }

        int loudestAt(int house) {
            int most = 0;
            int found = NONE;
            for (int letter = 0; letter < letters; letter++) {
                int words = heardAt(letter, house);
                if (words > most) {
                    most = words;
                    found = letter;
                }
            }
            return found;
        }

        int wordsAt(int house) {
            int leftOut = leftOutAfter(tipsyAt(house));
            int together = 0;
            for (int letter = 0; letter < letters; letter++) {
                together += heardWith(letter, house, leftOut);
            }
            return together;
        }

        int houseWithMost() {
            int found = 0;
            for (int house = 1; house < houses; house++) {
                if (wordsAt(house) > wordsAt(found)) {
                    found = house;
                }
            }
            return found;
        }

        int houseWithFewest() {
            int found = 0;
            for (int house = 1; house < houses; house++) {
                if (wordsAt(house) < wordsAt(found)) {
                    found = house;
                }
            }
            return found;
        }

        int allDrink() {
            int together = 0;
            for (int house = 0; house < houses; house++) {
                together += drink[house];
            }
            return together;
        }

        int allEars() {
            int together = 0;
            for (int house = 0; house < houses; house++) {
                together += ears[house];
            }
            return together;
        }

        void goRound() {
            for (int house = 0; house < houses; house++) {
                ears[house] += wordsAt(house);
            }
            days++;
        }

        void goDrawnDay() {
            int windy = draw(houses);
            wind[windy] = draw(NINE + 1);
            int pouring = draw(houses);
            drink[pouring] = draw(NINE + 1);
            goRound();
        }

        private int draw(int below) {
            seed = seed * 1103515245 + 12345;
            return below > 0 ? (seed >>> 16) % below : 0;
        }
    }

    /** What would be, if one thing of the lane were another; asked on a copy, so nothing changes. */
    private static final class Guess {
        final Lane lane = new Lane();
        private final boolean[] marked = new boolean[MOST_LENGTH + 1];
        private final int[] tally = new int[MOST_LENGTH + 1];

        Lane freshFrom(Lane now) {
            lane.takeFrom(now);
            return lane;
        }

        int addressFor(Lane now, int letter, int set) {
            freshFrom(now);
            for (int to = 0; to < lane.houses; to++) {
                lane.to[letter] = to;
                if (lane.knowers(letter) == set) {
                    return to;
                }
            }
            return NONE;
        }

        /** How much more drink is the least that hushes, 0 if it's hushed now, or NONE. */
        int leastHush(Lane now, int letter, int set) {
            freshFrom(now);
            if (isHushed(letter, set)) {
                return 0;
            }
            for (int poured = 1; poured <= MOST_POURED; poured++) {
                if (hushHouse(now, letter, set, poured) != NONE) {
                    return poured;
                }
            }
            return NONE;
        }

        /** The first house at which so much more drink hushes, or NONE; for no drink there is none. */
        int hushHouse(Lane now, int letter, int set, int poured) {
            if (poured == 0) {
                return NONE;
            }
            freshFrom(now);
            for (int house = 0; house < lane.houses; house++) {
                lane.drink[house] += poured;
                if (isHushed(letter, set)) {
                    return house;
                }
                lane.drink[house] -= poured;
            }
            return NONE;
        }

        private boolean isHushed(int letter, int set) {
            int known = lane.knowers(letter);
            int to = 1 << lane.to[letter];
            boolean toIsRight = (set & to) != 0 || (known & to) != 0;
            return (known & set) == 0 && toIsRight;
        }

        int sealFor(Lane now, int letter, int set) {
            freshFrom(now);
            for (int kind = LETTER; kind <= HONEYED; kind++) {
                lane.kind[letter] = kind;
                if (lane.knowers(letter) == set) {
                    return kind;
                }
            }
            return NONE;
        }

        int leastLength(Lane now, int letter, int house) {
            freshFrom(now);
            for (int length = 1; length <= MOST_LENGTH; length++) {
                lane.length[letter] = length;
                if (lane.isKnown(letter, house)) {
                    return length;
                }
            }
            return NONE;
        }

        private boolean fitsHeard(Shelf told, int n, int letter) {
            for (int house = 0; house < n; house++) {
                if (lane.heardAt(letter, house) != told.elements[house]) {
                    return false;
                }
            }
            return true;
        }

        /** Marks lengths that fit a told row, for the questions after them: how many. */
        int markLengths(Lane now, Shelf told, int n, int letter) {
            freshFrom(now);
            int fitting = 0;
            for (int length = 1; length <= MOST_LENGTH; length++) {
                lane.length[letter] = length;
                marked[length] = fitsHeard(told, n, letter);
                fitting += asNumber(marked[length]);
            }
            return fitting;
        }

        int leastMarked() {
            for (int length = 1; length <= MOST_LENGTH; length++) {
                if (marked[length]) {
                    return length;
                }
            }
            return NONE;
        }

        int greatestMarked() {
            for (int length = MOST_LENGTH; length >= 1; length--) {
                if (marked[length]) {
                    return length;
                }
            }
            return NONE;
        }

        /** The first house whose worst answer leaves the fewest of the marked lengths. */
        int bestParting(int letter) {
            int fewest = MOST_LENGTH + 1;
            int found = NONE;
            for (int house = 0; house < lane.houses; house++) {
                int left = mostLeft(letter, house);
                if (left < fewest) {
                    fewest = left;
                    found = house;
                }
            }
            return found;
        }

        private int mostLeft(int letter, int house) {
            for (int words = 0; words <= MOST_LENGTH; words++) {
                tally[words] = 0;
            }
            int most = 0;
            for (int length = 1; length <= MOST_LENGTH; length++) {
                if (marked[length]) {
                    lane.length[letter] = length;
                    int words = lane.heardAt(letter, house);
                    tally[words]++;
                    most = Math.max(most, tally[words]);
                }
            }
            return most;
        }

        int fittingKinds(Lane now, Shelf told, int n, int letter) {
            freshFrom(now);
            int bits = 0;
            for (int kind = LETTER; kind <= HONEYED; kind++) {
                lane.kind[letter] = kind;
                if (fitsHeard(told, n, letter)) {
                    bits |= 1 << kind;
                }
            }
            return bits;
        }

        int fittingTos(Lane now, Shelf told, int n, int letter) {
            freshFrom(now);
            int bits = 0;
            for (int to = 0; to < lane.houses; to++) {
                lane.to[letter] = to;
                if (fitsHeard(told, n, letter)) {
                    bits |= 1 << to;
                }
            }
            return bits;
        }

        int fittingWinds(Lane now, Shelf told, int n, int house) {
            freshFrom(now);
            int bits = 0;
            for (int wind = 0; wind <= NINE; wind++) {
                lane.wind[house] = wind;
                if (fitsHouse(told, n, house)) {
                    bits |= 1 << wind;
                }
            }
            return bits;
        }

        private boolean fitsHouse(Shelf told, int n, int house) {
            for (int letter = 0; letter < n; letter++) {
                if (lane.heardAt(letter, house) != told.elements[letter]) {
                    return false;
                }
            }
            return true;
        }

        /** The least drink of the one who wants much by which most is heard after the answer. */
        int bestDrink(Lane now, int much, int little, int letter, int house) {
            int most = NONE;
            int found = 0;
            for (int drink = 0; drink <= NINE; drink++) {
                int words = heardOfPoured(now, much, drink, little, letter, house);
                if (words > most) {
                    most = words;
                    found = drink;
                }
            }
            return found;
        }

        int heardOfPoured(Lane now, int much, int drink, int little, int letter, int house) {
            int answered = answerTo(now, much, drink, little, letter, house);
            lane.drink[little] = answered;
            return lane.heardAt(letter, house);
        }

        /** The least drink of the one who wants little, by which fewest words are heard. */
        int answerTo(Lane now, int much, int drink, int little, int letter, int house) {
            freshFrom(now);
            lane.drink[much] = drink;
            int fewest = MOST_LENGTH + 1;
            int found = 0;
            for (int own = 0; own <= NINE; own++) {
                lane.drink[little] = own;
                int words = lane.heardAt(letter, house);
                if (words < fewest) {
                    fewest = words;
                    found = own;
                }
            }
            return found;
        }

        int windsOfKnowing(Lane now, int letter, int house) {
            freshFrom(now);
            int count = 0;
            for (int wind = 0; wind <= NINE; wind++) {
                lane.wind[house] = wind;
                count += asNumber(lane.isKnown(letter, house));
            }
            return count;
        }

        int sureKnowers(Lane now, int letter) {
            int count = 0;
            for (int house = 0; house < now.houses; house++) {
                if (house != now.to[letter]) {
                    count += asNumber(windsOfKnowing(now, letter, house) == NINE + 1);
                }
            }
            return count;
        }

        int knowersTurned(Lane now, int letter) {
            freshFrom(now);
            lane.back = !lane.back;
            return Integer.bitCount(lane.knowers(letter));
        }

        int leastCold(Lane now, int letter, int house) {
            freshFrom(now);
            for (int cold = 0; cold <= NINE; cold++) {
                lane.cold = cold;
                if (!lane.isKnown(letter, house)) {
                    return cold;
                }
            }
            return NONE;
        }

        int widestTo(Lane now, int letter) {
            int most = NONE;
            int found = 0;
            for (int to = 0; to < now.houses; to++) {
                int count = knowersIfTo(now, letter, to);
                if (count > most) {
                    most = count;
                    found = to;
                }
            }
            return found;
        }

        int knowersIfTo(Lane now, int letter, int to) {
            freshFrom(now);
            lane.to[letter] = to;
            return Integer.bitCount(lane.knowers(letter));
        }

        int leastQuietWind(Lane now, int house) {
            freshFrom(now);
            for (int wind = 0; wind <= NINE; wind++) {
                lane.wind[house] = wind;
                if (lane.knownAt(house) == 0) {
                    return wind;
                }
            }
            return NONE;
        }

        int knowersSober(Lane now, int letter) {
            freshFrom(now);
            for (int house = 0; house < lane.houses; house++) {
                lane.drink[house] = 0;
            }
            return Integer.bitCount(lane.knowers(letter));
        }

        int allKnowersIfDrink(Lane now, int house, int drink) {
            freshFrom(now);
            lane.drink[house] = drink;
            return lane.allKnowers();
        }

        boolean isKnownIfTaught(Lane now, int letter, int house) {
            freshFrom(now);
            lane.learn(house, lane.a[letter]);
            return lane.isKnown(letter, house);
        }

        int merriestHouse(Lane now, int letter) {
            int most = NONE;
            int found = 0;
            for (int house = 0; house < now.houses; house++) {
                freshFrom(now);
                lane.drink[house] = 0;
                int count = Integer.bitCount(lane.knowers(letter));
                if (count > most) {
                    most = count;
                    found = house;
                }
            }
            return found;
        }
    }

    /** Holds nothing, a row by its sort, or a letter by its number; its room is used again. */
    private static final class Shelf {
        int held = NONE;
        int size = 0;
        final long[] elements = new long[MOST_ELEMENTS];

        void clearOut() {
            held = NONE;
            size = 0;
        }

        void takeLetter(int letter) {
            held = SHOWN + letter;
            size = 0;
        }

        void takeRow(int sort, int n) {
            held = sort;
            size = n;
            for (int i = 0; i < MOST_ELEMENTS; i++) {
                elements[i] = 0;
            }
        }

        boolean holdsNothing() {
            return held == NONE;
        }

        boolean holdsLetter() {
            return held >= SHOWN;
        }

        int shownLetter() {
            return holdsLetter() ? held - SHOWN : NONE;
        }

        boolean hasElement(int i) {
            return i >= 0 && i < size;
        }

        /** The difference is looked at, not the sum, which could wrap around. */
        boolean hasPart(int i, int n) {
            return i >= 0 && n >= 0 && n <= size - i;
        }

        /** What stands against a row of at least n elements here, or FITTING. */
        int rowFault(int n) {
            if (holdsLetter()) {
                return OTHER;
            }
            if (holdsNothing()) {
                return NOTHING;
            }
            return n > size ? BAD : FITTING;
        }

        void put(int i, long v) {
            elements[i] = asKept(v);
        }

        private long asKept(long v) {
            switch (held) {
                case BYTES:
                    return (byte) v;
                case SHORTS:
                    return (short) v;
                case INTS:
                    return (int) v;
                case BOOLEANS:
                    return v != 0 ? 1 : 0;
                default:
                    return v;
            }
        }
    }

    /** Bytes told one by one, and the reading of them as a lane. */
    private static final class Tape {
        private static final int END = 0;
        private static final int WORD = 1;
        private static final int NUMBER = 2;
        private static final int SIGN = 3;
        private static final int STRANGE = 4;
        private static final int MOST_DIGITS = 2;

        private final int[] bytes = new int[TAPE_SIZE];
        private int size = 0;
        private int token = END;
        private int start = 0;
        private int end = 0;
        private int fault = NONE;

        boolean hasRoom() {
            return size < TAPE_SIZE;
        }

        int append(int b) {
            if (hasRoom()) {
                bytes[size] = b;
                size++;
            }
            return size;
        }

        int empty() {
            int was = size;
            size = 0;
            return was;
        }

        int size() {
            return size;
        }

        /** The place of the first token that couldn't stand in the last reading, or NONE. */
        int fault() {
            return fault;
        }

        /** Reads all statements into a lane: how many; with a fault the lane is of no use. */
        int readInto(Lane lane) {
            fault = NONE;
            end = 0;
            int statements = 0;
            for (int most = 0; most <= TAPE_SIZE; most++) {
                step();
                readStatement(lane);
                if (fault != NONE) {
                    return NONE;
                }
                statements++;
                step();
                if (token == END) {
                    return statements;
                }
                if (token != SIGN) {
                    blame(start);
                    return NONE;
                }
            }
            return statements;
        }

        /** The first fault is the one that counts: what is read after it is only guessed. */
        private void blame(int place) {
            if (fault == NONE) {
                fault = place;
            }
        }

        private void readStatement(Lane lane) {
            if (token != WORD) {
                blame(start);
            } else if (isWord("houses")) {
                readHouses(lane);
            } else if (isWord("letter")) {
                readLetter(lane);
            } else if (isWord("wind")) {
                readIntoHouse(lane, lane.wind);
            } else if (isWord("drink")) {
                readIntoHouse(lane, lane.drink);
            } else if (isWord("code")) {
                readCode(lane);
            } else if (isWord("cold")) {
                readCold(lane);
            } else if (isWord("back")) {
                lane.back = true;
            } else if (isWord("forth")) {
                lane.back = false;
            } else {
                blame(start);
            }
        }

        private void readHouses(Lane lane) {
            int n = readNumber(lane.houses, MOST_HOUSES);
            if (fault == NONE) {
                lane.houses = n;
            }
        }

        private void readLetter(Lane lane) {
            if (!lane.hasRoom()) {
                blame(start);
            }
            int kind = readNumber(LETTER, HONEYED);
            int a = readNumber(0, NINE);
            int to = readNumber(0, lane.houses - 1);
            int length = readNumber(1, MOST_LENGTH);
            if (fault == NONE) {
                lane.addLetter(kind, a, to, length);
            }
        }

        private void readIntoHouse(Lane lane, int[] told) {
            int house = readNumber(0, lane.houses - 1);
            int v = readNumber(0, NINE);
            if (fault == NONE) {
                told[house] = v;
            }
        }

        private void readCode(Lane lane) {
            int house = readNumber(0, lane.houses - 1);
            int code = readNumber(0, NINE);
            if (fault == NONE) {
                lane.learn(house, code);
            }
        }

        private void readCold(Lane lane) {
            int v = readNumber(0, NINE);
            if (fault == NONE) {
                lane.cold = v;
            }
        }

        /** The next token as a number that may be; else it is the fault, and the least stands in. */
        private int readNumber(int least, int most) {
            if (fault != NONE) {
                return least;
            }
            step();
            if (token != NUMBER || end - start > MOST_DIGITS) {
                blame(start);
                return least;
            }
            int v = 0;
            for (int i = start; i < end; i++) {
                v = 10 * v + bytes[i] - '0';
            }
            if (v < least || v > most) {
                blame(start);
                return least;
            }
            return v;
        }

        /** Goes on to the next token, which is as long as can be. */
        private void step() {
            start = end;
            while (start < size && bytes[start] == ' ') {
                start++;
            }
            end = start;
            token = sortAt(start);
            if (token == WORD || token == NUMBER) {
                while (end < size && sortAt(end) == token) {
                    end++;
                }
            } else if (token != END) {
                end = start + 1;
            }
        }

        private int sortAt(int place) {
            if (place >= size) {
                return END;
            }
            int b = bytes[place];
            if (b >= 'a' && b <= 'z') {
                return WORD;
            }
            if (b >= '0' && b <= '9') {
                return NUMBER;
            }
            return b == ';' ? SIGN : STRANGE;
        }

        private boolean isWord(String word) {
            if (end - start != word.length()) {
                return false;
            }
            for (int i = start; i < end; i++) {
                if (bytes[i] != word.charAt(i - start)) {
                    return false;
                }
            }
            return true;
        }
    }
}
