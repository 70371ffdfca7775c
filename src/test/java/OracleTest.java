import java.lang.reflect.Method;
import java.util.ArrayList;
import java.util.Arrays;
import java.util.Comparator;
import java.util.HashMap;
import java.util.List;
import java.util.Map;
import java.util.Random;

/** Random runs of calls, right ones and wrong ones: each answer is the one that the Oracle gives. */
public final class OracleTest {
    private static final int RUNS = 1500;
    private static final int CALLS = 500;
    private static final long[] WILD = {Integer.MIN_VALUE, -21, -2, -1, 0, 1, 7, 8, 10, 12, 13, 40, 41, 255, 256, 4096, Integer.MAX_VALUE};
    private static final String[] WORDS = {"houses", "letter", "wind", "drink", "code", "cold", "back", "forth"};
    private static final Map<String, int[]> RANGES = new HashMap<>();
    private static final Map<String, Integer> ANSWERED = new HashMap<>();

    private final Random random;
    private final int run;
    private final ReadOutAlongTheWay x = new ReadOutAlongTheWay();
    private final Oracle oracle = new Oracle();
    private final StringBuilder story = new StringBuilder();
    private int calls = 0;
    private boolean wrong = false;

    private OracleTest(int run) {
        this.run = run;
        this.random = new Random(run * 7919L + 17);
    }

    public static void main(String[] args) throws ReflectiveOperationException {
        // the greatest number that each argument mostly gets; S a shelf, H a house, L a letter are asked for by -1, -2, -3
        put("row", -1, 4, 14).put("set", -1, 12, 300).put("copy", -1, -1, 6, 6, 6).put("element", -1, 12).put("holds", -1);
        put("show", -1, -3).put("says", -1, 5).put("houses", 12).put("letter", 5, 9, -2, 40).put("mend", -3, 1, 12);
        put("tell", -2, 1, 9).put("code", -2, 9, 1).put("cold", 9).put("way", 1).put("feed", 255).put("wipe").put("lane");
        put("letterOf", -3, 3).put("houseOf", -2, 5).put("heard", -3, -2).put("isRead", -3, -2).put("whoKnows", -3);
        put("knows", -2).put("first", -3, 1).put("loudest", -2).put("words", -2).put("best", 2).put("address", -3, -4);
        put("hush", -3, -4, 1).put("seal", -3, -4).put("shout", -3, -2).put("lengths", -1, 8, -3, 2).put("fits", -1, 8, -3, 1);
        put("ask", -1, 8, -3).put("winds", -1, 5, -2).put("pour", -2, -2, -3, -2, 1).put("answer", -2, -2, -3, -2, 9);
        put("chance", -3, -2).put("sure", -3).put("turned", -3).put("gossips").put("colds", -3, -2).put("widest", -3, 1);
        put("wise").put("secret").put("lost").put("reach", -3, 1).put("lacks", -3, -2).put("alike", -2, -2).put("quiet", -2);
        put("sober", -3).put("thirst", -2).put("taught", -3, -2).put("merry", -3).put("common", -3, -3).put("doubt", -3);
        put("ofKind", 5).put("judge", -1, 14).put("round", 1).put("days", 5).put("seed", 100000).put("image").put("back");
        put("status", 17);
        Method[] face = face();
        int failed = 0;
        for (int run = 0; run < RUNS; run++) {
            OracleTest test = new OracleTest(run);
            test.go(face);
            failed += test.wrong ? 1 : 0;
        }
        for (Method m : face) {
            if (ANSWERED.getOrDefault(m.getName(), 0) < 800) {
                System.out.println(m.getName() + " was seldom answered without a refusal");
                failed++;
            }
        }
        System.out.println(failed == 0 ? RUNS + " random runs are as the oracle says" : failed + " runs went wrong");
        if (failed != 0) {
            System.exit(1);
        }
    }

    /** So that the table of arguments can be written as a chain. */
    private static final class Table {
        Table put(String name, int... most) {
            RANGES.put(name, most);
            return this;
        }
    }

    private static Table put(String name, int... most) {
        return new Table().put(name, most);
    }

    private static Method[] face() {
        List<Method> all = new ArrayList<>();
        for (Method m : ReadOutAlongTheWay.class.getDeclaredMethods()) {
            if (java.lang.reflect.Modifier.isPublic(m.getModifiers())) {
                all.add(m);
            }
        }
        all.sort(Comparator.comparing(Method::getName));
        return all.toArray(new Method[0]);
    }

    private void go(Method[] face) throws ReflectiveOperationException {
        settle(face);
        while (calls < CALLS && !wrong) {
            int dice = random.nextInt(20);
            if (dice == 0) {
                feedText(face);
            } else if (dice <= 2) {
                tellTruth(face);
            } else if (dice <= 4) {
                changeLane(face);
            } else if (dice == 5) {
                useShelves(face);
            } else {
                Method m = face[random.nextInt(face.length)];
                if (m.getName().equals("round") && random.nextInt(4) != 0) {
                    call(face, "round", 0);
                } else {
                    call(m, arguments(m));
                }
            }
        }
    }

    private void settle(Method[] face) throws ReflectiveOperationException {
        if (random.nextInt(3) == 0) {
            call(face, "houses", 8 + random.nextInt(5));
        }
        int letters = random.nextInt(9);
        for (int k = 0; k < letters; k++) {
            call(face, "letter", random.nextInt(6), random.nextInt(10), random.nextInt(oracle.w.n()), 1 + random.nextInt(40));
        }
        for (int k = 0; k < 8; k++) {
            changeLane(face);
        }
    }

    private void changeLane(Method[] face) throws ReflectiveOperationException {
        int h = random.nextInt(oracle.w.n());
        switch (random.nextInt(8)) {
            case 0, 1:
                call(face, "tell", h, 0, random.nextInt(10));
                break;
            case 2:
                call(face, "tell", h, 1, random.nextInt(10));
                break;
            case 3:
                call(face, "code", h, random.nextInt(10), random.nextInt(4) == 0 ? 0 : 1);
                break;
            case 4:
                call(face, "cold", random.nextInt(10));
                break;
            case 5:
                call(face, "letter", random.nextInt(6), random.nextInt(10), h, 1 + random.nextInt(20));
                break;
            case 6:
                if (!oracle.w.letters().isEmpty()) {
                    call(face, "mend", random.nextInt(oracle.w.letters().size()), 0, h);
                }
                break;
            default:
                call(face, "way", random.nextInt(2));
        }
    }

    private void feedText(Method[] face) throws ReflectiveOperationException {
        StringBuilder text = new StringBuilder();
        int statements = 1 + random.nextInt(3);
        for (int k = 0; k < statements; k++) {
            if (k > 0) {
                text.append(random.nextInt(20) == 0 ? " " : random.nextBoolean() ? ";" : " ; ");
            }
            text.append(statement());
        }
        if (random.nextInt(8) == 0) {
            text.append(";");
        }
        if (random.nextInt(5) == 0) {
            text.setCharAt(random.nextInt(text.length()), "az059; A{`/:\u0000\u00e9".charAt(random.nextInt(14)));
        }
        for (int k = 0; k < text.length(); k++) {
            call(face, "feed", text.charAt(k));
        }
        call(face, "lane");
    }

    private String statement() {
        String word = WORDS[random.nextInt(WORDS.length)];
        int h = random.nextInt(oracle.w.n() + (random.nextInt(10) == 0 ? 2 : 0));
        String pad = random.nextInt(20) == 0 ? "0" : "";
        String blank = random.nextInt(8) == 0 ? "" : random.nextInt(8) == 0 ? "  " : " ";
        int nine = random.nextInt(random.nextInt(10) == 0 ? 12 : 10);
        return switch (word) {
            case "houses" -> word + blank + pad + (random.nextInt(4) == 0 ? 7 + random.nextInt(7) : oracle.w.n());
            case "letter" -> word + blank + pad + random.nextInt(6) + " " + nine + " " + h + " " + random.nextInt(42);
            case "back", "forth" -> word;
            case "cold" -> word + blank + pad + nine;
            default -> word + blank + h + " " + pad + nine;
        };
    }

    /** Fills a row with what is heard or known in truth, and asks what fits, so that something does. */
    private void tellTruth(Method[] face) throws ReflectiveOperationException {
        if (oracle.w.letters().isEmpty()) {
            return;
        }
        int s = random.nextInt(8);
        int l = random.nextInt(oracle.w.letters().size());
        int h = random.nextInt(oracle.w.n());
        int sort = random.nextInt(10) == 0 ? 4 : random.nextInt(4);
        int form = random.nextInt(3);
        int full = form == 1 ? oracle.w.letters().size() : oracle.w.n();
        int n = random.nextInt(full + 1);
        call(face, "row", s, sort, n + random.nextInt(3));
        for (int k = 0; k < n; k++) {
            long v = form == 0 ? oracle.w.heard(l, k) : form == 1 ? oracle.w.heard(k, h) : oracle.w.knows(k);
            call(face, "set", s, k, random.nextInt(40) == 0 ? v + 1 : v);
        }
        if (form == 0) {
            for (int what = 0; what < 3; what++) {
                call(face, "lengths", s, n, l, what);
            }
            call(face, "fits", s, n, l, 0);
            call(face, "fits", s, n, l, 1);
            call(face, "ask", s, n, l);
        } else if (form == 1) {
            call(face, "winds", s, n, h);
        } else {
            call(face, "judge", s, n);
            call(face, "judge", s, n + 1);
        }
    }

    private void useShelves(Method[] face) throws ReflectiveOperationException {
        int s = random.nextInt(8);
        if (random.nextBoolean()) {
            int q = random.nextInt(8);
            int sort = random.nextInt(5);
            call(face, "row", s, sort, 1 + random.nextInt(6));
            call(face, "row", q, sort, 1 + random.nextInt(6));
            for (int k = 0; k < 4; k++) {
                call(face, "set", s, k, random.nextLong() >> random.nextInt(64));
            }
            call(face, "copy", s, random.nextInt(3) == 0 ? s : q, random.nextInt(3), random.nextInt(3), random.nextInt(4));
            for (int k = 0; k < 6; k++) {
                call(face, "element", q, k);
            }
        } else if (!oracle.w.letters().isEmpty()) {
            call(face, "show", s, random.nextInt(oracle.w.letters().size()));
            for (int kind = 0; kind < 6; kind++) {
                call(face, "says", s, kind);
            }
        }
    }

    private long[] arguments(Method m) {
        int[] most = RANGES.get(m.getName());
        long[] args = new long[most.length];
        for (int k = 0; k < args.length; k++) {
            args[k] = argument(most[k]);
            if (random.nextInt(40) == 0 && m.getParameterTypes()[k] != boolean.class) {
                args[k] = WILD[random.nextInt(WILD.length)];
            }
        }
        return args;
    }

    private long argument(int most) {
        switch (most) {
            case -1:
                return random.nextInt(8);
            case -2:
                return random.nextInt(oracle.w.n());
            case -3:
                return oracle.w.letters().isEmpty() ? 0 : random.nextInt(oracle.w.letters().size());
            case -4:
                return toldSet();
            default:
                return random.nextInt(most + 1);
        }
    }

    private long toldSet() {
        if (random.nextInt(3) == 0 || oracle.w.letters().isEmpty()) {
            return random.nextInt(1 << oracle.w.n());
        }
        int knowing = oracle.w.whoKnows(random.nextInt(oracle.w.letters().size()));
        return random.nextBoolean() ? knowing : Integer.lowestOneBit(knowing);
    }

    private void call(Method[] face, String name, long... args) throws ReflectiveOperationException {
        for (Method m : face) {
            if (m.getName().equals(name)) {
                call(m, args);
                return;
            }
        }
        throw new IllegalStateException("no call " + name);
    }

    private void call(Method m, long[] args) throws ReflectiveOperationException {
        if (wrong || calls >= CALLS) {
            return;
        }
        calls++;
        Object[] given = new Object[args.length];
        for (int k = 0; k < args.length; k++) {
            Class<?> type = m.getParameterTypes()[k];
            if (type == boolean.class) {
                given[k] = args[k] != 0;
            } else if (type == long.class) {
                given[k] = args[k];
            } else {
                given[k] = (int) args[k];
            }
        }
        long want = oracle.call(m.getName(), args);
        long got = ((Number) m.invoke(x, given)).longValue();
        story.append(m.getName()).append(Arrays.toString(args)).append(" = ").append(got).append('\n');
        if (want >= -1 || m.getReturnType() == long.class) {
            ANSWERED.merge(m.getName(), 1, Integer::sum);
        }
        if (got != want) {
            wrong = true;
            System.out.println("run " + run + ": " + story + "due is " + want);
        }
    }
}
