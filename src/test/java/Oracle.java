import java.util.ArrayList;
import java.util.Collections;
import java.util.List;
import java.util.function.IntFunction;
import java.util.function.IntPredicate;
import java.util.regex.Matcher;
import java.util.regex.Pattern;
import java.util.stream.Collectors;
import java.util.stream.IntStream;

/** The document written a second time, with unchanging worlds instead of rows that are used again. */
final class Oracle {
    record House(int wind, int drink, int codes, int ears) {
    }

    record Letter(int kind, int a, int to, int length) {
        Letter withKind(int v) {
            return new Letter(v, a, to, length);
        }

        Letter withTo(int v) {
            return new Letter(kind, a, v, length);
        }

        Letter withLength(int v) {
            return new Letter(kind, a, to, v);
        }
    }

    record World(List<House> houses, List<Letter> letters, int cold, boolean back, int days, int seed) {
        int n() {
            return houses.size();
        }

        List<Integer> order() {
            List<Integer> order = IntStream.range(0, n()).boxed().collect(Collectors.toList());
            if (back) {
                Collections.reverse(order);
            }
            return order;
        }

        World withHouse(int h, House house) {
            List<House> all = new ArrayList<>(houses);
            all.set(h, house);
            return new World(all, letters, cold, back, days, seed);
        }

        World withHouses(int count) {
            List<House> all = new ArrayList<>(houses);
            while (all.size() < count) {
                all.add(new House(0, 0, 0, 0));
            }
            return new World(all, letters, cold, back, days, seed);
        }

        World withWind(int h, int v) {
            House o = houses.get(h);
            return withHouse(h, new House(v, o.drink, o.codes, o.ears));
        }

        World withDrink(int h, int v) {
            House o = houses.get(h);
            return withHouse(h, new House(o.wind, v, o.codes, o.ears));
        }

        World withCode(int h, int c, boolean is) {
            House o = houses.get(h);
            return withHouse(h, new House(o.wind, o.drink, is ? o.codes | 1 << c : o.codes & ~(1 << c), o.ears));
        }

        World withLetter(int l, Letter letter) {
            List<Letter> all = new ArrayList<>(letters);
            all.set(l, letter);
            return withLetters(all);
        }

        World plusLetter(Letter letter) {
            List<Letter> all = new ArrayList<>(letters);
            all.add(letter);
            return withLetters(all);
        }

        World withLetters(List<Letter> all) {
            return new World(houses, all, cold, back, days, seed);
        }

        World withCold(int v) {
            return new World(houses, letters, v, back, days, seed);
        }

        World withBack(boolean v) {
            return new World(houses, letters, cold, v, days, seed);
        }

        World withSeed(int v) {
            return new World(houses, letters, cold, back, days, v);
        }

        int tipsy(int h) {
            int sum = 0;
            for (int other : order()) {
                if (other == h) {
                    break;
                }
                sum += houses.get(other).drink;
            }
            return sum;
        }

        int leftOut(int h) {
            return tipsy(h) / 4 + cold / 3;
        }

        boolean read(int l, int h) {
            return order().indexOf(h) <= order().indexOf(letters.get(l).to);
        }

        int heard(int l, int h) {
            if (!read(l, h)) {
                return 0;
            }
            Letter x = letters.get(l);
            return Math.min(x.length, Math.max(0, byKind(x, x.kind, h)));
        }

        private int byKind(Letter x, int kind, int h) {
            House house = houses.get(h);
            int ahead = order().indexOf(x.to) - order().indexOf(h);
            return switch (kind) {
                case 0 -> x.length - house.wind - leftOut(h);
                case 1 -> x.length - house.wind / 2 - leftOut(h);
                case 2 -> x.to != h && (house.codes & 1 << x.a) == 0 ? 0 : byKind(x, 0, h);
                case 3 -> Math.max(0, byKind(x, 1, h)) + x.a;
                case 4 -> ahead > 1 ? 0 : byKind(x, 2, h);
                case 5 -> x.to == h ? x.length : 0;
                default -> throw new IllegalStateException("kind " + kind);
            };
        }

        boolean known(int l, int h) {
            return heard(l, h) * 2 >= letters.get(l).length;
        }

        int whoKnows(int l) {
            return bits(n(), h -> known(l, h));
        }

        int knows(int h) {
            return bits(letters.size(), l -> known(l, h));
        }

        int words(int h) {
            return IntStream.range(0, letters.size()).map(l -> heard(l, h)).sum();
        }

        int ears() {
            return houses.stream().mapToInt(House::ears).sum();
        }

        World round() {
            List<House> all = new ArrayList<>();
            for (int h = 0; h < n(); h++) {
                House o = houses.get(h);
                all.add(new House(o.wind, o.drink, o.codes, o.ears + words(h)));
            }
            return new World(all, letters, cold, back, days + 1, seed);
        }
    }

    static final class Fault extends Exception {
        private static final long serialVersionUID = 1L;
        final int place;

        Fault(int place) {
            this.place = place;
        }
    }

    record Token(int place, String text) {
    }

    World w = new World(Collections.nCopies(8, new House(0, 0, 0, 0)), List.of(), 0, false, 0, 1);
    private World kept = null;
    private final StringBuilder tape = new StringBuilder();
    private final int[] shelf = new int[8];
    private final long[][] rows = new long[8][];
    private final int[] refused = new int[5];

    Oracle() {
        java.util.Arrays.fill(shelf, -1);
    }

    static int bits(int n, IntPredicate is) {
        return IntStream.range(0, n).filter(is).map(i -> 1 << i).sum();
    }

    private static int firstOf(int from, int to, IntPredicate is) {
        return IntStream.rangeClosed(from, to).filter(is).findFirst().orElse(-1);
    }

    /** The first number with the greatest value. */
    private static int firstMost(int n, java.util.function.IntUnaryOperator value) {
        int most = IntStream.range(0, n).map(value).max().orElseThrow();
        return firstOf(0, n - 1, i -> value.applyAsInt(i) == most);
    }

    private int no(int number) {
        refused[-2 - number]++;
        return number;
    }

    private static boolean in(long v, long least, long most) {
        return v >= least && v <= most;
    }

    private boolean isHouse(long h) {
        return in(h, 0, w.n() - 1);
    }

    private boolean isLetter(long l) {
        return in(l, 0, w.letters.size() - 1);
    }

    private static boolean isShelf(long s) {
        return in(s, 0, 7);
    }

    private boolean isSet(long set) {
        return in(set, 0, (1L << w.n()) - 1);
    }

    private static int count(int bits) {
        return Integer.bitCount(bits);
    }

    private static long bit(boolean is) {
        return is ? 1 : 0;
    }

    /** -3, -4 or -2 for a shelf that has no row with n elements; 0 else. */
    private int rowFault(int s, int n) {
        if (shelf[s] >= 10) {
            return -3;
        }
        if (shelf[s] == -1) {
            return -4;
        }
        return rows[s].length < n ? -2 : 0;
    }

    long call(String name, long[] v) {
        int[] i = new int[Math.max(6, v.length)];
        for (int k = 0; k < v.length; k++) {
            i[k] = (int) v[k];
        }
        switch (name) {
            case "row", "set", "copy", "element", "holds", "show", "says":
                return shelfCall(name, i, v);
            case "houses", "letter", "mend", "tell", "code", "cold", "way", "feed", "wipe", "lane":
                return tellCall(name, i);
            case "letterOf", "houseOf", "heard", "isRead", "whoKnows", "knows", "first", "loudest", "words", "best":
                return seeCall(name, i);
            case "address", "hush", "seal", "shout", "lengths", "fits", "ask", "winds", "pour", "answer":
                return seekCall(name, i);
            case "chance", "sure", "turned", "gossips", "colds", "widest", "wise", "secret", "lost", "reach", "lacks":
                return guessCall(name, i);
            case "alike", "quiet", "sober", "thirst", "taught", "merry", "common", "doubt", "ofKind", "judge":
                return knowCall(name, i);
            default:
                return truthCall(name, i);
        }
    }

    private long shelfCall(String name, int[] i, long[] v) {
        int s = i[0];
        switch (name) {
            case "row":
                if (!isShelf(s) || !in(i[1], 0, 4) || !in(i[2], 0, 40)) {
                    return no(-2);
                }
                shelf[s] = i[1];
                rows[s] = new long[i[2]];
                return 1;
            case "set": {
                if (!isShelf(s)) {
                    return no(-2);
                }
                if (rowFault(s, 0) != 0) {
                    return no(rowFault(s, 0));
                }
                if (!in(i[1], 0, rows[s].length - 1)) {
                    return no(-2);
                }
                long[] as = {(byte) v[2], (short) v[2], (int) v[2], v[2], bit(v[2] != 0)};
                rows[s][i[1]] = as[shelf[s]];
                return 1;
            }
            case "copy":
                return copyRows(i[0], i[1], i[2], i[3], i[4]);
            case "element":
                return isShelf(s) && in(shelf[s], 0, 4) && in(i[1], 0, rows[s].length - 1) ? rows[s][i[1]] : 0;
            case "holds":
                return isShelf(s) ? shelf[s] : -1;
            case "show":
                if (!isShelf(s) || i[1] != -1 && !isLetter(i[1])) {
                    return no(-2);
                }
                shelf[s] = i[1] == -1 ? -1 : 10 + i[1];
                return 1;
            default:
                if (!isShelf(s) || !in(i[1], 0, 5)) {
                    return no(-2);
                }
                if (shelf[s] == -1) {
                    return no(-4);
                }
                if (shelf[s] < 10) {
                    return no(-3);
                }
                Letter l = w.letters.get(shelf[s] - 10);
                List<List<Integer>> takenFor =
                    List.of(List.of(0), List.of(0, 1), List.of(0, 2), List.of(0, 1, 3), List.of(0, 2, 4), List.of(0, 5));
                if (!takenFor.get(l.kind).contains(i[1])) {
                    return no(-3);
                }
                return i[1] == 0 ? l.a : w.heard(shelf[s] - 10, 0);
        }
    }

    private long copyRows(int p, int q, long from, long to, long n) {
        if (!isShelf(p) || !isShelf(q)) {
            return no(-2);
        }
        int hp = shelf[p];
        int hq = shelf[q];
        if (hp >= 10 || hq >= 10 || hp != -1 && hq != -1 && hp != hq) {
            return no(-3);
        }
        if (hp == -1 || hq == -1) {
            return no(-4);
        }
        if (n < 0 || from < 0 || to < 0 || from + n > rows[p].length || to + n > rows[q].length) {
            return no(-2);
        }
        long[] before = rows[p].clone();
        for (int k = 0; k < n; k++) {
            rows[q][(int) to + k] = before[(int) from + k];
        }
        return n;
    }

    private long tellCall(String name, int[] i) {
        World was = w;
        switch (name) {
            case "houses":
                if (!in(i[0], w.n(), 12)) {
                    return no(-2);
                }
                w = w.withHouses(i[0]);
                return was.n();
            case "letter":
                if (!in(i[0], 0, 5) || !in(i[1], 0, 9) || !isHouse(i[2]) || !in(i[3], 1, 40)) {
                    return no(-2);
                }
                if (w.letters.size() == 8) {
                    return no(-6);
                }
                w = w.plusLetter(new Letter(i[0], i[1], i[2], i[3]));
                return was.letters.size();
            case "mend": {
                if (!isLetter(i[0]) || !(i[1] == 0 && isHouse(i[2]) || i[1] == 1 && in(i[2], 1, 40))) {
                    return no(-2);
                }
                Letter l = w.letters.get(i[0]);
                w = w.withLetter(i[0], i[1] == 0 ? l.withTo(i[2]) : l.withLength(i[2]));
                return i[1] == 0 ? l.to : l.length;
            }
            case "tell": {
                if (!isHouse(i[0]) || !in(i[1], 0, 1) || !in(i[2], 0, 9)) {
                    return no(-2);
                }
                House h = w.houses.get(i[0]);
                w = i[1] == 0 ? w.withWind(i[0], i[2]) : w.withDrink(i[0], i[2]);
                return i[1] == 0 ? h.wind : h.drink;
            }
            case "code": {
                if (!isHouse(i[0]) || !in(i[1], 0, 9)) {
                    return no(-2);
                }
                w = w.withCode(i[0], i[1], i[2] != 0);
                return was.houses.get(i[0]).codes >> i[1] & 1;
            }
            case "cold":
                if (!in(i[0], 0, 9)) {
                    return no(-2);
                }
                w = w.withCold(i[0]);
                return was.cold;
            case "way":
                w = w.withBack(i[0] != 0);
                return bit(was.back);
            case "feed":
                if (!in(i[0], 0, 255)) {
                    return no(-2);
                }
                if (tape.length() == 250) {
                    return no(-6);
                }
                tape.append((char) i[0]);
                return tape.length();
            case "wipe": {
                int size = tape.length();
                tape.setLength(0);
                return size;
            }
            default:
                return readLane();
        }
    }

    private long readLane() {
        String text = tape.toString();
        tape.setLength(0);
        List<Token> tokens = new ArrayList<>();
        Matcher m = Pattern.compile("[a-z]+|[0-9]+|;| +|[\\s\\S]").matcher(text);
        while (m.find()) {
            if (!m.group().startsWith(" ")) {
                tokens.add(new Token(m.start(), m.group()));
            }
        }
        tokens.add(new Token(text.length(), ""));
        World before = w;
        try {
            int at = 0;
            int statements = 0;
            while (true) {
                at = readStatement(tokens, at);
                statements++;
                Token t = tokens.get(at);
                if (t.text.isEmpty()) {
                    return statements;
                }
                if (!t.text.equals(";")) {
                    throw new Fault(t.place);
                }
                at++;
            }
        } catch (Fault f) {
            w = before;
            no(-2);
            return -20 - f.place;
        }
    }

    private static int number(Token t, int least, int most) throws Fault {
        if (!t.text.matches("[0-9]{1,2}") || !in(Integer.parseInt(t.text), least, most)) {
            throw new Fault(t.place);
        }
        return Integer.parseInt(t.text);
    }

    private int readStatement(List<Token> tokens, int at) throws Fault {
        Token word = tokens.get(at);
        IntFunction<Token> arg = k -> tokens.get(at + k);
        switch (word.text) {
            case "houses":
                w = w.withHouses(number(arg.apply(1), w.n(), 12));
                return at + 2;
            case "letter": {
                if (w.letters.size() == 8) {
                    throw new Fault(word.place);
                }
                int k = number(arg.apply(1), 0, 5);
                int a = number(arg.apply(2), 0, 9);
                int h = number(arg.apply(3), 0, w.n() - 1);
                w = w.plusLetter(new Letter(k, a, h, number(arg.apply(4), 1, 40)));
                return at + 5;
            }
            case "wind": {
                int h = number(arg.apply(1), 0, w.n() - 1);
                w = w.withWind(h, number(arg.apply(2), 0, 9));
                return at + 3;
            }
            case "drink": {
                int h = number(arg.apply(1), 0, w.n() - 1);
                w = w.withDrink(h, number(arg.apply(2), 0, 9));
                return at + 3;
            }
            case "code": {
                int h = number(arg.apply(1), 0, w.n() - 1);
                w = w.withCode(h, number(arg.apply(2), 0, 9), true);
                return at + 3;
            }
            case "cold":
                w = w.withCold(number(arg.apply(1), 0, 9));
                return at + 2;
            case "back":
                w = w.withBack(true);
                return at + 1;
            case "forth":
                w = w.withBack(false);
                return at + 1;
            default:
                throw new Fault(word.place);
        }
    }

    private long seeCall(String name, int[] i) {
        boolean letterOk = isLetter(i[0]);
        boolean houseOk = isHouse(i[0]);
        switch (name) {
            case "letterOf": {
                if (!letterOk || !in(i[1], 0, 3)) {
                    return no(-2);
                }
                Letter l = w.letters.get(i[0]);
                return new int[] {l.kind, l.a, l.to, l.length}[i[1]];
            }
            case "houseOf": {
                if (!houseOk || !in(i[1], 0, 5)) {
                    return no(-2);
                }
                House h = w.houses.get(i[0]);
                return new int[] {h.wind, h.drink, h.codes, h.ears, w.tipsy(i[0]), w.leftOut(i[0])}[i[1]];
            }
            case "heard":
                return letterOk && isHouse(i[1]) ? w.heard(i[0], i[1]) : no(-2);
            case "isRead":
                return letterOk && isHouse(i[1]) ? bit(w.read(i[0], i[1])) : no(-2);
            case "whoKnows":
                return letterOk ? w.whoKnows(i[0]) : no(-2);
            case "knows":
                return houseOk ? w.knows(i[0]) : no(-2);
            case "first": {
                if (!letterOk || !in(i[1], 0, 1)) {
                    return no(-2);
                }
                List<Integer> order = w.order();
                if (i[1] == 1) {
                    Collections.reverse(order);
                }
                return order.stream().filter(h -> w.known(i[0], h)).findFirst().orElse(-1);
            }
            case "loudest": {
                if (!houseOk) {
                    return no(-2);
                }
                if (w.words(i[0]) == 0) {
                    return -1;
                }
                return firstMost(w.letters.size(), l -> w.heard(l, i[0]));
            }
            case "words":
                return houseOk ? w.words(i[0]) : no(-2);
            default: {
                if (!in(i[0], 0, 2)) {
                    return no(-2);
                }
                if (i[0] == 2) {
                    return firstMost(w.n(), h -> -w.words(h));
                }
                int best = firstMost(w.n(), w::words);
                return i[0] == 0 ? best : w.words(best);
            }
        }
    }

    private boolean hushed(World x, int l, int set) {
        int knowing = x.whoKnows(l);
        int to = 1 << x.letters.get(l).to;
        return (knowing & set) == 0 && ((set & to) != 0 || (knowing & to) != 0);
    }

    private long hush(int l, int set, int what) {
        if (hushed(w, l, set)) {
            return what == 0 ? 0 : -1;
        }
        for (int more = 1; more <= 40; more++) {
            for (int h = 0; h < w.n(); h++) {
                if (hushed(w.withDrink(h, w.houses.get(h).drink + more), l, set)) {
                    return what == 0 ? more : h;
                }
            }
        }
        return -1;
    }

    private boolean fits(World x, int l, int s, int n) {
        return IntStream.range(0, n).allMatch(h -> x.heard(l, h) == rows[s][h]);
    }

    private List<Integer> lengths(int s, int n, int l) {
        Letter letter = w.letters.get(l);
        return IntStream.rangeClosed(1, 40).filter(k -> fits(w.withLetter(l, letter.withLength(k)), l, s, n))
            .boxed().collect(Collectors.toList());
    }

    private int worstLeft(List<Integer> lengths, int l, int h) {
        return lengths.stream()
            .collect(Collectors.groupingBy(k -> w.withLetter(l, w.letters.get(l).withLength(k)).heard(l, h), Collectors.counting()))
            .values().stream().mapToInt(Long::intValue).max().orElseThrow();
    }

    private long toldCall(String name, int[] i) {
        int mostWhat = name.equals("lengths") ? 2 : name.equals("fits") ? 1 : Integer.MAX_VALUE;
        int what = name.equals("ask") ? 0 : i[3];
        if (!isShelf(i[0]) || !in(i[1], 0, Math.min(12, w.n())) || !isLetter(i[2]) || !in(what, 0, mostWhat)) {
            return no(-2);
        }
        if (rowFault(i[0], i[1]) != 0) {
            return no(rowFault(i[0], i[1]));
        }
        int l = i[2];
        Letter letter = w.letters.get(l);
        if (name.equals("fits")) {
            return i[3] == 0
                ? bits(6, k -> fits(w.withLetter(l, letter.withKind(k)), l, i[0], i[1]))
                : bits(w.n(), h -> fits(w.withLetter(l, letter.withTo(h)), l, i[0], i[1]));
        }
        List<Integer> fitting = lengths(i[0], i[1], l);
        if (name.equals("ask")) {
            return fitting.size() < 2 ? -1 : firstMost(w.n(), h -> -worstLeft(fitting, l, h));
        }
        if (i[3] == 0) {
            return fitting.size();
        }
        return fitting.isEmpty() ? -1 : fitting.get(i[3] == 1 ? 0 : fitting.size() - 1);
    }

    private int littleAnswer(int[] i, int v) {
        World x = w.withDrink(i[0], v);
        return firstMost(10, d -> -x.withDrink(i[1], d).heard(i[2], i[3]));
    }

    private int afterAnswer(int[] i, int v) {
        return w.withDrink(i[0], v).withDrink(i[1], littleAnswer(i, v)).heard(i[2], i[3]);
    }

    private long seekCall(String name, int[] i) {
        switch (name) {
            case "address":
                if (!isLetter(i[0]) || !isSet(i[1])) {
                    return no(-2);
                }
                return firstOf(0, w.n() - 1, h -> w.withLetter(i[0], w.letters.get(i[0]).withTo(h)).whoKnows(i[0]) == i[1]);
            case "hush":
                if (!isLetter(i[0]) || !isSet(i[1]) || !in(i[2], 0, 1)) {
                    return no(-2);
                }
                return hush(i[0], i[1], i[2]);
            case "seal":
                if (!isLetter(i[0]) || !isSet(i[1])) {
                    return no(-2);
                }
                return firstOf(0, 5, k -> w.withLetter(i[0], w.letters.get(i[0]).withKind(k)).whoKnows(i[0]) == i[1]);
            case "shout":
                if (!isLetter(i[0]) || !isHouse(i[1])) {
                    return no(-2);
                }
                return firstOf(1, 40, k -> w.withLetter(i[0], w.letters.get(i[0]).withLength(k)).known(i[0], i[1]));
            case "winds":
                if (!isShelf(i[0]) || !in(i[1], 0, w.letters.size()) || !isHouse(i[2])) {
                    return no(-2);
                }
                if (rowFault(i[0], i[1]) != 0) {
                    return no(rowFault(i[0], i[1]));
                }
                return bits(10, v -> IntStream.range(0, i[1]).allMatch(l -> w.withWind(i[2], v).heard(l, i[2]) == rows[i[0]][l]));
            case "pour", "answer": {
                int most = name.equals("pour") ? 1 : 9;
                if (!isHouse(i[0]) || !isHouse(i[1]) || i[0] == i[1] || !isLetter(i[2]) || !isHouse(i[3]) || !in(i[4], 0, most)) {
                    return no(-2);
                }
                if (name.equals("answer")) {
                    return littleAnswer(i, i[4]);
                }
                int own = firstMost(10, v -> afterAnswer(i, v));
                return i[4] == 1 ? own : afterAnswer(i, own);
            }
            default:
                return toldCall(name, i);
        }
    }

    private long gossips() {
        long found = -1;
        int most = 0;
        for (int p = 0; p < w.n(); p++) {
            for (int q = p + 1; q < w.n(); q++) {
                int both = count(w.knows(p) & w.knows(q));
                if (both > most) {
                    most = both;
                    found = 100 * p + q;
                }
            }
        }
        return found;
    }

    private long guessCall(String name, int[] i) {
        int letters = w.letters.size();
        boolean pairOk = isLetter(i[0]) && isHouse(i[1]);
        boolean whatOk = isLetter(i[0]) && in(i[1], 0, 1);
        switch (name) {
            case "gossips":
                return gossips();
            case "wise":
                return bits(w.n(), h -> IntStream.range(0, letters).anyMatch(l -> w.read(l, h))
                    && IntStream.range(0, letters).allMatch(l -> !w.read(l, h) || w.known(l, h)));
            case "secret":
                return bits(letters, l -> IntStream.range(0, w.n()).allMatch(h -> w.known(l, h) == (h == w.letters.get(l).to)));
            case "lost":
                return bits(letters, l -> !w.known(l, w.letters.get(l).to));
            case "chance":
                return pairOk ? 100000L * IntStream.range(0, 10).filter(v -> w.withWind(i[1], v).known(i[0], i[1])).count() : no(-2);
            case "sure":
                return isLetter(i[0])
                    ? IntStream.range(0, w.n()).filter(h -> h != w.letters.get(i[0]).to && w.read(i[0], h)
                        && IntStream.range(0, 10).allMatch(v -> w.withWind(h, v).known(i[0], h))).count()
                    : no(-2);
            case "turned":
                return isLetter(i[0]) ? count(w.withBack(!w.back).whoKnows(i[0])) : no(-2);
            case "colds":
                return pairOk ? firstOf(0, 9, v -> !w.withCold(v).known(i[0], i[1])) : no(-2);
            case "widest": {
                if (!whatOk) {
                    return no(-2);
                }
                Letter l = w.letters.get(i[0]);
                int to = firstMost(w.n(), h -> count(w.withLetter(i[0], l.withTo(h)).whoKnows(i[0])));
                return i[1] == 0 ? to : count(w.withLetter(i[0], l.withTo(to)).whoKnows(i[0]));
            }
            case "reach": {
                if (!whatOk) {
                    return no(-2);
                }
                int[] heard = IntStream.range(0, w.n()).map(h -> w.heard(i[0], h)).toArray();
                return i[1] == 0 ? IntStream.of(heard).filter(x -> x > 0).count() : IntStream.of(heard).sum();
            }
            default: {
                if (!pairOk) {
                    return no(-2);
                }
                int more = 0;
                while (2 * (w.heard(i[0], i[1]) + more) < w.letters.get(i[0]).length) {
                    more++;
                }
                return more;
            }
        }
    }

    private long knowCall(String name, int[] i) {
        boolean letterOk = isLetter(i[0]);
        switch (name) {
            case "alike":
                return isHouse(i[0]) && isHouse(i[1]) ? bit(w.knows(i[0]) == w.knows(i[1])) : no(-2);
            case "quiet":
                return isHouse(i[0]) ? firstOf(0, 9, v -> w.withWind(i[0], v).knows(i[0]) == 0) : no(-2);
            case "sober": {
                World dry = w;
                for (int h = 0; h < w.n(); h++) {
                    dry = dry.withDrink(h, 0);
                }
                return letterOk ? count(dry.whoKnows(i[0])) : no(-2);
            }
            case "thirst":
                return isHouse(i[0])
                    ? IntStream.range(0, w.letters.size()).map(l -> count(w.whoKnows(l)) - count(w.withDrink(i[0], 9).whoKnows(l))).sum()
                    : no(-2);
            case "taught":
                return letterOk && isHouse(i[1])
                    ? bit(w.withCode(i[1], w.letters.get(i[0]).a, true).known(i[0], i[1]))
                    : no(-2);
            case "merry":
                return letterOk ? firstMost(w.n(), h -> count(w.withDrink(h, 0).whoKnows(i[0]))) : no(-2);
            case "common":
                return letterOk && isLetter(i[1]) ? w.whoKnows(i[0]) & w.whoKnows(i[1]) : no(-2);
            case "doubt":
                return letterOk ? bits(w.n(), h -> w.read(i[0], h) && !w.known(i[0], h)) : no(-2);
            case "ofKind":
                return in(i[0], 0, 5) ? w.letters.stream().filter(l -> l.kind == i[0]).count() : no(-2);
            default:
                if (!isShelf(i[0]) || !in(i[1], 0, 40)) {
                    return no(-2);
                }
                if (rowFault(i[0], i[1]) != 0) {
                    return no(rowFault(i[0], i[1]));
                }
                return firstOf(0, i[1] - 1, h -> h >= w.n() || rows[i[0]][h] != w.knows(h));
        }
    }

    private int draw(int below) {
        w = w.withSeed(w.seed * 1103515245 + 12345);
        return (int) ((w.seed & 0xFFFFFFFFL) / 65536 % below);
    }

    private void forgetLetters() {
        for (int s = 0; s < 8; s++) {
            if (shelf[s] - 10 >= w.letters.size()) {
                shelf[s] = -1;
            }
        }
    }

    private long truthCall(String name, int[] i) {
        switch (name) {
            case "round":
                w = w.round();
                if (i[0] != 0) {
                    w = w.withLetters(List.of());
                    forgetLetters();
                }
                return w.ears();
            case "days":
                if (!in(i[0], 1, 60)) {
                    return no(-2);
                }
                for (int d = 0; d < i[0]; d++) {
                    int windy = draw(w.n());
                    int wind = draw(10);
                    int pouring = draw(w.n());
                    int drink = draw(10);
                    w = w.withWind(windy, wind).withDrink(pouring, drink).round();
                }
                return w.ears();
            case "seed": {
                int was = w.seed;
                w = w.withSeed(i[0]);
                return was;
            }
            case "image":
                kept = w;
                return 1;
            case "back":
                if (kept == null) {
                    return no(-5);
                }
                w = kept;
                forgetLetters();
                return 1;
            case "status":
                return status(i[0]);
            default:
                throw new IllegalArgumentException(name);
        }
    }

    private long status(int what) {
        if (in(what, 12, 16)) {
            return refused[what - 12];
        }
        int spent = w.houses.stream().mapToInt(House::drink).sum();
        long held = IntStream.of(shelf).filter(x -> x != -1).count();
        long[] all = {w.letters.size(), w.n(), w.cold, bit(w.back), spent, w.ears(), w.days, tape.length(), w.seed, held};
        return in(what, 0, 9) ? all[what] : -1;
    }
}
