import java.util.LinkedHashMap;
import java.util.Map;
import java.util.function.ToLongFunction;

/** What holds for all calls, sentence by sentence: REFUSALS of the Terms, and that asking changes nothing. */
final class RefusalBoundaries extends Boundaries {
    private RefusalBoundaries() {
    }

    static void all() {
        terms("5, 6, 8, 19 to 59, 65", "(nothing is changed)", () -> questions().forEach((name, call) -> {
            ReadOutAlongTheWay x = village();
            long once = call.applyAsLong(x);
            Check.must(once >= NONE, name + " answered " + once + ", due is no refusal");
            due(name + " again", call.applyAsLong(x), once);
            Check.askedOf(Boundaries::village, name, call, once);
        }));
        terms("2 to 4, 7 to 14, 16, 19 to 41, 43, 44, 48 to 59, 61", "(the call answers the number;", () ->
            badOnes().forEach((name, call) -> due(name, call.applyAsLong(village()), BAD)));
        terms("2 to 4, 7 to 14, 16, 19 to 41, 43, 44, 48 to 59, 61, 65", "nothing changes but how many there were;", RefusalBoundaries::nothingChanges);
        terms("3, 4, 8, 10, 16, 33 to 36, 59", "the first that fits as each line has them):", RefusalBoundaries::firstThatFits);
        terms("2 to 65", "-2 BAD a number that may not be, nothing of that number.", RefusalBoundaries::bad);
        terms("3, 4, 8, 33 to 36, 59", "-3 OTHER: a SHELF that holds another thing than is wanted.", RefusalBoundaries::other);
        terms("3, 4, 8, 33 to 36, 59", "-4 NOTHING: a SHELF that holds NOTHING.", RefusalBoundaries::nothing);
        terms("64", "-5 STUCK: it can't be as things stand.", () -> {
            ReadOutAlongTheWay x = plain(5);
            due("nothing was kept", x.back(), STUCK);
            due("nor now", x.back(), STUCK);
            status(x, 15, 2);
            x.image();
            due("it was", x.back(), 1);
            status(x, 15, 2);
        });
        terms("10, 16", "-6 FULL.", () -> {
            ReadOutAlongTheWay x = fresh();
            for (int k = 0; k < 8; k++) {
                due("room for a letter", x.letter(0, 0, 0, 1), k);
            }
            due("none for one more", x.letter(0, 0, 0, 1), FULL);
            status(x, 16, 1);
            for (int k = 1; k <= 250; k++) {
                due("room for a byte", x.feed(' '), k);
            }
            due("none for one more", x.feed(' '), FULL);
            status(x, 16, 2);
            x.round(true);
            due("room for letters again", x.letter(0, 0, 0, 1), 0);
            x.wipe();
            due("room for bytes again", x.feed(' '), 1);
            status(x, 16, 2);
        });
    }

    /** A question of each promise that only asks, not refused in the village. */
    private static Map<String, ToLongFunction<ReadOutAlongTheWay>> questions() {
        Map<String, ToLongFunction<ReadOutAlongTheWay>> all = new LinkedHashMap<>();
        all.put("element", x -> x.element(0, 5));
        all.put("holds", x -> x.holds(3));
        all.put("says", x -> x.says(3, 2));
        all.put("letterOf", x -> x.letterOf(5, 3));
        all.put("houseOf", x -> x.houseOf(8, 5));
        all.put("heard", x -> x.heard(0, 2));
        all.put("isRead", x -> x.isRead(0, 6));
        all.put("whoKnows", x -> x.whoKnows(0));
        all.put("knows", x -> x.knows(2));
        all.put("first", x -> x.first(0, 1));
        all.put("loudest", x -> x.loudest(8));
        all.put("words", x -> x.words(0));
        all.put("best", x -> x.best(2));
        all.put("address", x -> x.address(0, 1));
        all.put("hush", x -> x.hush(0, 32, 0));
        all.put("hush where", x -> x.hush(0, 32, 1));
        all.put("seal", x -> x.seal(0, 47));
        all.put("shout", x -> x.shout(0, 4));
        all.put("lengths", x -> x.lengths(0, 6, 0, 2));
        all.put("fits kinds", x -> x.fits(0, 6, 0, 0));
        all.put("fits tos", x -> x.fits(0, 6, 0, 1));
        all.put("ask", x -> x.ask(1, 0, 2));
        all.put("winds", x -> x.winds(0, 6, 2));
        all.put("pour", x -> x.pour(0, 2, 0, 5, 0));
        all.put("answer", x -> x.answer(0, 2, 0, 5, 9));
        putTheRest(all);
        return all;
    }

    private static void putTheRest(Map<String, ToLongFunction<ReadOutAlongTheWay>> all) {
        all.put("chance", x -> x.chance(0, 5));
        all.put("sure", x -> x.sure(3));
        all.put("turned", x -> x.turned(0));
        all.put("gossips", x -> x.gossips());
        all.put("colds", x -> x.colds(1, 5));
        all.put("widest", x -> x.widest(0, 1));
        all.put("wise", x -> x.wise());
        all.put("secret", x -> x.secret());
        all.put("lost", x -> x.lost());
        all.put("reach", x -> x.reach(0, 1));
        all.put("lacks", x -> x.lacks(0, 4));
        all.put("alike", x -> x.alike(0, 1));
        all.put("quiet", x -> x.quiet(5));
        all.put("sober", x -> x.sober(0));
        all.put("thirst", x -> x.thirst(0));
        all.put("taught", x -> x.taught(2, 0));
        all.put("merry", x -> x.merry(0));
        all.put("common", x -> x.common(0, 1));
        all.put("doubt", x -> x.doubt(0));
        all.put("ofKind", x -> x.ofKind(5));
        all.put("judge", x -> x.judge(0, 6));
        all.put("status", x -> x.status(9));
    }

    /** A call of each promise that can be BAD, with one number that may not be. */
    private static Map<String, ToLongFunction<ReadOutAlongTheWay>> badOnes() {
        Map<String, ToLongFunction<ReadOutAlongTheWay>> all = new LinkedHashMap<>();
        all.put("row", x -> x.row(0, 5, 1));
        all.put("set", x -> x.set(0, 6, 9));
        all.put("copy", x -> x.copy(0, 1, 0, 0, 4));
        all.put("show", x -> x.show(0, 6));
        all.put("says", x -> x.says(3, 6));
        all.put("houses", x -> x.houses(13));
        all.put("letter", x -> x.letter(0, 0, 0, 41));
        all.put("mend", x -> x.mend(0, 0, 9));
        all.put("tell", x -> x.tell(0, 0, 10));
        all.put("code", x -> x.code(2, 13, false));
        all.put("cold", x -> x.cold(10));
        all.put("feed", x -> x.feed(256));
        all.put("letterOf", x -> x.letterOf(0, 4));
        all.put("houseOf", x -> x.houseOf(0, 6));
        all.put("heard", x -> x.heard(0, 9));
        all.put("isRead", x -> x.isRead(0, 9));
        all.put("whoKnows", x -> x.whoKnows(6));
        all.put("knows", x -> x.knows(9));
        all.put("first", x -> x.first(0, 2));
        all.put("loudest", x -> x.loudest(9));
        all.put("words", x -> x.words(9));
        all.put("best", x -> x.best(3));
        all.put("address", x -> x.address(0, 512));
        all.put("hush", x -> x.hush(0, 512, 0));
        all.put("seal", x -> x.seal(0, 512));
        all.put("shout", x -> x.shout(0, 9));
        all.put("lengths", x -> x.lengths(0, 0, 0, 3));
        all.put("fits", x -> x.fits(0, 0, 0, 2));
        all.put("ask", x -> x.ask(0, 10, 0));
        all.put("winds", x -> x.winds(0, 7, 0));
        all.put("pour", x -> x.pour(3, 3, 0, 0, 0));
        all.put("answer", x -> x.answer(0, 1, 0, 0, 10));
        putMoreBad(all);
        return all;
    }

    private static void putMoreBad(Map<String, ToLongFunction<ReadOutAlongTheWay>> all) {
        all.put("chance", x -> x.chance(0, 9));
        all.put("sure", x -> x.sure(6));
        all.put("turned", x -> x.turned(6));
        all.put("colds", x -> x.colds(0, 9));
        all.put("widest", x -> x.widest(0, 2));
        all.put("reach", x -> x.reach(0, 2));
        all.put("lacks", x -> x.lacks(0, 9));
        all.put("alike", x -> x.alike(0, 9));
        all.put("quiet", x -> x.quiet(9));
        all.put("sober", x -> x.sober(6));
        all.put("thirst", x -> x.thirst(9));
        all.put("taught", x -> x.taught(0, 9));
        all.put("merry", x -> x.merry(6));
        all.put("common", x -> x.common(0, 6));
        all.put("doubt", x -> x.doubt(6));
        all.put("ofKind", x -> x.ofKind(6));
        all.put("judge", x -> x.judge(0, 41));
        all.put("days", x -> x.days(61));
    }

    private static void nothingChanges() {
        badOnes().forEach((name, call) -> Check.refusedOf(Boundaries::village, name, call, BAD));
        ReadOutAlongTheWay x = village();
        badOnes().forEach((name, call) -> call.applyAsLong(x));
        status(x, 12, 1 + badOnes().size());
        status(x, 13, 0);
        status(x, 14, 1);
        status(x, 15, 0);
        status(x, 16, 0);
        Check.same("all of them together", x, village());
    }

    private static void firstThatFits() {
        ReadOutAlongTheWay x = fullVillage();
        due("set: BAD SHELF", x.set(8, -1, 0), BAD);
        due("set: OTHER ahead of BAD i", x.set(3, -1, 0), OTHER);
        due("set: NOTHING ahead of BAD i", x.set(5, -1, 0), NOTHING);
        due("copy: BAD SHELVES ahead of OTHER", x.copy(3, 8, 0, 0, 0), BAD);
        due("copy: OTHER ahead of NOTHING", x.copy(5, 3, -1, 0, 0), OTHER);
        due("copy: OTHER by sorts ahead of BAD", x.copy(0, 2, -1, 0, 0), OTHER);
        due("copy: NOTHING ahead of BAD", x.copy(5, 0, -1, 0, 0), NOTHING);
        due("says: BAD KIND ahead of OTHER", x.says(0, 6), BAD);
        due("says: BAD KIND ahead of NOTHING", x.says(5, 6), BAD);
        due("letter: BAD ahead of FULL", x.letter(0, 0, 0, 41), BAD);
        due("lengths: BAD ahead of OTHER", x.lengths(3, 10, 0, 0), BAD);
        due("lengths: OTHER ahead of fewer", x.lengths(3, 9, 0, 0), OTHER);
        due("fits: BAD ahead of NOTHING", x.fits(5, 10, 0, 0), BAD);
        due("fits: NOTHING ahead of fewer", x.fits(5, 9, 0, 0), NOTHING);
        due("ask: BAD ahead of OTHER", x.ask(3, 0, 8), BAD);
        due("ask: OTHER ahead of fewer", x.ask(3, 9, 0), OTHER);
        due("winds: BAD ahead of NOTHING", x.winds(5, 0, 9), BAD);
        due("winds: NOTHING ahead of fewer", x.winds(5, 8, 0), NOTHING);
        due("judge: BAD ahead of OTHER", x.judge(3, 41), BAD);
        due("judge: OTHER ahead of fewer", x.judge(3, 40), OTHER);
        status(x, 12, 1 + 10);
        status(x, 13, 6);
        status(x, 14, 1 + 4);
        status(x, 16, 0);
        Check.feed(x, " ".repeat(244));
        due("feed: BAD ahead of FULL", x.feed(256), BAD);
        due("feed: FULL", x.feed(255), FULL);
    }

    /** Without letters the first is nothing of that number; houses are there from the first to the eighth. */
    private static void bad() {
        ReadOutAlongTheWay x = fresh();
        due("no letter", x.whoKnows(0), BAD);
        due("a house", x.knows(7), 0);
        due("no house", x.knows(8), BAD);
        x.letter(0, 0, 7, 1);
        due("a letter", x.whoKnows(0), 255);
        due("no second", x.whoKnows(1), BAD);
        x.houses(9);
        due("a house now", x.knows(8), 0);
        x.round(true);
        due("no letter any more", x.whoKnows(0), BAD);
        status(x, 12, 4);
    }

    private static void other() {
        ReadOutAlongTheWay x = village();
        due("set", x.set(3, 0, 0), OTHER);
        due("copy", x.copy(3, 0, 0, 0, 0), OTHER);
        due("says", x.says(0, 0), OTHER);
        due("lengths", x.lengths(3, 0, 0, 0), OTHER);
        due("fits", x.fits(3, 0, 0, 0), OTHER);
        due("ask", x.ask(3, 0, 0), OTHER);
        due("winds", x.winds(3, 0, 0), OTHER);
        due("judge", x.judge(3, 0), OTHER);
        status(x, 13, 8);
        status(x, 14, 1);
        x.row(3, 0, 1);
        due("a row now", x.set(3, 0, 0), 1);
        x.show(0, 2);
        due("a letter now", x.says(0, 0), 3);
        status(x, 13, 8);
    }

    private static void nothing() {
        ReadOutAlongTheWay x = village();
        due("set", x.set(5, 0, 0), NOTHING);
        due("copy", x.copy(5, 0, 0, 0, 0), NOTHING);
        due("says", x.says(5, 0), NOTHING);
        due("lengths", x.lengths(5, 0, 0, 0), NOTHING);
        due("fits", x.fits(5, 0, 0, 0), NOTHING);
        due("ask", x.ask(5, 0, 0), NOTHING);
        due("winds", x.winds(5, 0, 0), NOTHING);
        due("judge", x.judge(5, 0), NOTHING);
        status(x, 14, 1 + 8);
        status(x, 13, 0);
        x.row(5, 0, 1);
        due("a row now", x.set(5, 0, 0), 1);
        x.show(5, NONE);
        due("nothing again", x.set(5, 0, 0), NOTHING);
    }
}
