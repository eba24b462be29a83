import java.util.ArrayList;
import java.util.Arrays;
import java.util.LinkedHashMap;
import java.util.List;
import java.util.Map;
import java.util.function.Supplier;

/**
 * The REFUSALS of every promise. Each argument has values that are right (the least and the greatest among them) and
 * values that are refused (those next to them, and an int's ends). All of them are tried with all of the others': the
 * first refusal that fits in the promise's order is due, nothing changes, and there was one more of it.
 */
public final class RefusalsTest {
    private static final Due DUE = new Due();
    private static final int LEAST = Integer.MIN_VALUE;
    private static final int GREATEST = Integer.MAX_VALUE;
    private static final long LONG = 4000000000000000000L;

    private static final Values CELL = right(0, 19).wrong(-1, -1, 20, LEAST, GREATEST);
    private static final Values PAIR_OF_TWO = right(0, 1).wrong(-1, -1, 2, LEAST, GREATEST);
    private static final Values MINER_OF_FOUR = right(0, 3).wrong(-1, -1, 4, LEAST, GREATEST);
    private static final Values WHAT_OF_TWO = whats(2);

    private interface Ask {
        long of(LampOfTheSilent x, int[] a);
    }

    private static final class Values {
        private final Map<Integer, Integer> refusals = new LinkedHashMap<>();

        Values wrong(int refusal, int... values) {
            for (int value : values) {
                refusals.put(value, refusal);
            }
            return this;
        }
    }

    private static Values right(int... values) {
        return new Values().wrong(0, values);
    }

    private static Values whats(int many) {
        return right(0, many - 1).wrong(-2, -1, many, LEAST, GREATEST);
    }

    private static Values numbers(int least, int greatest) {
        return right(least, greatest).wrong(-4, least - 1, LEAST).wrong(-6, greatest + 1, GREATEST);
    }

    public static void main(String[] args) {
        ofOneNumber();
        ofTheGallery();
        ofMinds();
        ofTheBest();
        ofFractions();
        ofRowsAndLots();
        ofNobody();
        ofFourPairs();
        ofAllFull();
        ofTheLastMinutes();
        ofTwoOfTheSame();
        ofNoImage();
        howManyThereWere();
        whatIsNoRefusal();
        DUE.end();
    }

    /** Two pairs, BEAMS, BRUISES, TO SAY, an IMAGE of another time, a ROW that is so, letters of a mine that lacks its end. */
    private static LampOfTheSilent ordinary() {
        LampOfTheSilent x = Due.mineOf("pt1d2;pm3s4;b023;t005;m02;");
        x.image();
        Due.tell(x, "b071;a103;t112;m02;").mine();
        Due.rowed(x, 0, 0, 3, 0, 0, 0, 0, 1);
        x.pair(9, 9);
        return Due.tell(x, "b123;m01");
    }

    private static LampOfTheSilent fourPairs() {
        LampOfTheSilent x = Due.mineOf("pt1d2;pm3s4;pf5o6;pd7t8;");
        x.image();
        return x;
    }

    private static LampOfTheSilent allFull() {
        LampOfTheSilent x = fourPairs();
        x.props(15, 2);
        Due.rowed(x, 0, 0, 0, 0, 0, 0, 0, 0, 0, 0, 0, 0, 0, 0, 0, 2);
        return Due.tell(x, "m01;".repeat(24));
    }

    private static LampOfTheSilent atMinute(int minute) {
        LampOfTheSilent x = Due.mineOf("pt1d2;");
        x.image();
        return Due.atMinute(x, minute);
    }

    /** All values of each argument with all of the others': the order is that in which the promise tells its refusals. */
    private static void all(Supplier<LampOfTheSilent> start, String call, int[] order, Ask ask, Values... values) {
        all(start, call, order, ask, values, new int[0]);
    }

    private static void all(Supplier<LampOfTheSilent> start, String call, int[] order, Ask ask, Values[] values, int[] a) {
        if (a.length == values.length) {
            one(start, call + told(a), firstOf(order, values, a), ask, a);
            return;
        }
        for (int value : values[a.length].refusals.keySet()) {
            int[] more = Arrays.copyOf(a, a.length + 1);
            more[a.length] = value;
            all(start, call, order, ask, values, more);
        }
    }

    private static String told(int[] a) {
        return Arrays.toString(a).replace('[', '(').replace(']', ')');
    }

    private static int firstOf(int[] order, Values[] values, int[] a) {
        for (int refusal : order) {
            for (int i = 0; i < a.length; i++) {
                if (values[i].refusals.get(a[i]) == refusal) {
                    return refusal;
                }
            }
        }
        return 0;
    }

    private static void one(Supplier<LampOfTheSilent> start, String call, int refusal, Ask ask, int[] a) {
        LampOfTheSilent x = start.get();
        LampOfTheSilent twin = start.get();
        List<Long> before = Seen.refusals(twin);
        long answer = ask.of(x, a);
        List<Long> behind = Seen.refusals(x);
        if (refusal == 0) {
            DUE.is(call + " is refused", isRefusal(answer) ? 1 : 0, 0);
        } else {
            DUE.is(call, answer > 0 ? LONG - answer : answer, refusal);
            before.set(-refusal - 1, before.get(-refusal - 1) + 1);
            DUE.is(call + " changes nothing", Seen.areAlike(x, twin) ? 1 : 0, 1);
        }
        int wrongOnes = 0;
        for (int i = 0; i < 6; i++) {
            wrongOnes += behind.get(i).equals(before.get(i)) ? 0 : 1;
        }
        DUE.is(call + ": how many REFUSALS are not counted as due", wrongOnes, 0);
    }

    private static boolean isRefusal(long answer) {
        return answer < 0 && answer > -9 || answer > LONG;
    }

    private static int[] order(int... refusals) {
        return refusals;
    }

    private static void ofOneNumber() {
        Supplier<LampOfTheSilent> x = RefusalsTest::ordinary;
        DUE.by("Promise 2", "A letter (0 .. 255) comes: how many there are. -4; -6 (255; 96, too).");
        all(x, "letter", order(-4, -6), (y, a) -> y.letter(a[0]), numbers(0, 255));
        DUE.by("Promise 6", "BEAMS. -1.");
        all(x, "beams", order(-1), (y, a) -> y.beams(a[0]), CELL);
        DUE.by("Promise 12", "(1 .. 60) go by: how many are AT the FACE. -4; -6 (60;");
        all(x, "minutes", order(-4, -6), (y, a) -> y.minutes(a[0]), numbers(1, 60));
        DUE.by("Promise 15", "(-2; -9). -1.");
        all(x, "faced", order(-1), (y, a) -> y.faced(a[0]), right(0, 1, -1, -2).wrong(-1, -3, 2, LEAST, GREATEST));
        DUE.by("Promise 16", "DONE; -9. -1.");
        all(x, "done", order(-1), (y, a) -> y.done(a[0]), PAIR_OF_TWO);
        DUE.by("Promise 18", "WAIT; -9. -1.");
        all(x, "begins", order(-1), (y, a) -> y.begins(a[0]), PAIR_OF_TWO);
        DUE.by("Promise 19", "CLEAR; -9. -4; -6 40.");
        all(x, "clears", order(-4, -6), (y, a) -> y.clears(a[0]), numbers(0, 40));
        DUE.by("Promise 24", "TOGETHER (3). -2.");
        all(x, "first", order(-2), (y, a) -> y.first(a[0]), whats(4));
        DUE.by("Promise 25", "FREE (2, bits). -2.");
        all(x, "timber", order(-2), (y, a) -> y.timber(a[0]), whats(3));
    }

    private static void ofTheGallery() {
        Supplier<LampOfTheSilent> x = RefusalsTest::ordinary;
        DUE.by("Promise 4", "3 how many CELLS he goes. -1; -2.");
        all(x, "miner", order(-1, -2), (y, a) -> y.miner(a[0], a[1]), MINER_OF_FOUR, whats(4));
        DUE.by("Promise 5", "2 who would SPEAK next (0, 1; -9). -1; -2.");
        all(x, "pair", order(-1, -2), (y, a) -> y.pair(a[0], a[1]), PAIR_OF_TWO, whats(3));
        DUE.by("Promise 7", "-1; -4; -6 3.");
        all(x, "props", order(-1, -4, -6), (y, a) -> y.props(a[0], a[1]), CELL, numbers(0, 3));
        DUE.by("Promise 8", "They are there: where they were. -1 either.");
        all(x, "stands", order(-1), (y, a) -> y.stands(a[0], a[1]), PAIR_OF_TWO, CELL);
        DUE.by("Promise 9", "TO SAY then. -1; -4; -6 99.");
        all(x, "adds", order(-1, -4, -6), (y, a) -> y.adds(a[0], a[1]), PAIR_OF_TWO, numbers(0, 99));
        DUE.by("Promise 10", "-1 either (one twice, too).");
        Values other = right(1, 2).wrong(-1, -1, 4, LEAST, GREATEST);
        all(x, "swaps", order(-1), (y, a) -> y.swaps(a[0], a[1]), MINER_OF_FOUR, other);
        DUE.by("Promise 11", "10 times the KIND and the FIGURE it had. -1; -2; -4; -6 9.");
        all(x, "turn", order(-1, -2, -4, -6), (y, a) -> y.turn(a[0], a[1], a[2]), MINER_OF_FOUR, whats(6), numbers(0, 9));
    }

    private static void ofMinds() {
        Supplier<LampOfTheSilent> x = RefusalsTest::ordinary;
        DUE.by("Promise 13", "Where it is (what 0), TO SAY (1). -1; -4; -6 60; -2.");
        all(x, "pairThen", order(-1, -4, -6, -2), (y, a) -> y.pairThen(a[0], a[1], a[2]),
                PAIR_OF_TWO, numbers(0, 60), WHAT_OF_TWO);
        DUE.by("Promise 14", "BRUISES of one; of all (miner -1). -1; -4; -6 60.");
        Values minerOrAll = right(0, 3, -1).wrong(-1, -2, 4, LEAST, GREATEST);
        all(x, "bruisesThen", order(-1, -4, -6), (y, a) -> y.bruisesThen(a[0], a[1]), minerOrAll, numbers(0, 60));
        DUE.by("Promise 17", "HURT; -9. -1; -4; -6 99.");
        all(x, "hurt", order(-1, -4, -6), (y, a) -> y.hurt(a[0], a[1]), MINER_OF_FOUR, numbers(0, 99));
    }

    private static void ofTheBest() {
        Supplier<LampOfTheSilent> x = RefusalsTest::ordinary;
        DUE.by("Promise 21", "when (1; -9). -1; -2.");
        all(x, "bestKind", order(-1, -2), (y, a) -> y.bestKind(a[0], a[1]), MINER_OF_FOUR, WHAT_OF_TWO);
        DUE.by("Promise 22", "how many (1; -9). -1; -2.");
        all(x, "bestCell", order(-1, -2), (y, a) -> y.bestCell(a[0], a[1]), PAIR_OF_TWO, WHAT_OF_TWO);
        DUE.by("Promise 23", "HUM; -9. -1; -4; -6 12.");
        all(x, "hum", order(-1, -4, -6), (y, a) -> y.hum(a[0], a[1]), PAIR_OF_TWO, numbers(0, 12));
        DUE.by("Promise 27", "TWO; -9. -1; -4; -6 30.");
        all(x, "two", order(-1, -4, -6), (y, a) -> y.two(a[0], a[1]), PAIR_OF_TWO, numbers(0, 30));
    }

    private static void ofFractions() {
        Supplier<LampOfTheSilent> x = RefusalsTest::ordinary;
        DUE.by("Promise 28", "Refused as told: -1; -4 (n, v; t below 2); -6 (7; 20; 19); -2.");
        all(x, "cough", order(-1, -4, -6, -2), (y, a) -> y.cough(a[0], a[1], a[2], a[3], a[4]),
                PAIR_OF_TWO, numbers(0, 7), numbers(2, 20).wrong(-4, 0, -1), numbers(0, 19), WHAT_OF_TWO);
        DUE.by("Promise 29", "MEAN. Refused as told: -2.");
        all(x, "mean", order(-2), (y, a) -> y.mean(a[0]), WHAT_OF_TWO);
        DUE.by("THE IMAGE", "Of longs they are 4000000000000000000 less them (-1 as 4000000000000000001).");
        DUE.is("cough(2, 0, 2, 0, 0)", ordinary().cough(2, 0, 2, 0, 0), 4000000000000000001L);
        DUE.is("cough(0, 0, 2, 0, 2)", ordinary().cough(0, 0, 2, 0, 2), 4000000000000000002L);
        DUE.is("mean(2)", ordinary().mean(2), 4000000000000000002L);
        DUE.is("cough(0, -1, 2, 0, 0)", ordinary().cough(0, -1, 2, 0, 0), 4000000000000000004L);
        DUE.is("cough(0, 8, 2, 0, 0)", ordinary().cough(0, 8, 2, 0, 0), 4000000000000000006L);
    }

    private static void ofRowsAndLots() {
        Supplier<LampOfTheSilent> x = RefusalsTest::ordinary;
        DUE.by("Promise 30", "FIGURES (1). -1; -2.");
        all(x, "whatIs", order(-1, -2), (y, a) -> y.whatIs(a[0], a[1]), MINER_OF_FOUR, WHAT_OF_TWO);
        DUE.by("Promise 31", "A number more of the ROW (0 .. 99): how many. -4; -6 (99; 16, too).");
        all(x, "row", order(-4, -6), (y, a) -> y.row(a[0]), numbers(0, 99));
        DUE.by("Promise 34", "-4; -6 20; -2.");
        all(x, "lots", order(-4, -6, -2), (y, a) -> y.lots(a[0], a[1], a[2]),
                numbers(1, 20), right(0, -1, LEAST, GREATEST), WHAT_OF_TWO);
    }

    /** Without PAIRS there is nobody: neither PAIR 0 nor MINER 0. */
    private static void ofNobody() {
        Supplier<LampOfTheSilent> x = LampOfTheSilent::new;
        Values nobody = right().wrong(-1, 0, -1, 1, LEAST, GREATEST);
        Values anything = right(0, 1, -1, 99, LEAST, GREATEST);
        DUE.by("THE IMAGE", "-1 NOBODY: no such CELL, PAIR, MINER, one twice.");
        all(x, "miner", order(-1), (y, a) -> y.miner(a[0], a[1]), nobody, anything);
        all(x, "pair", order(-1), (y, a) -> y.pair(a[0], a[1]), nobody, anything);
        all(x, "stands", order(-1), (y, a) -> y.stands(a[0], a[1]), nobody, anything);
        all(x, "adds", order(-1), (y, a) -> y.adds(a[0], a[1]), nobody, anything);
        all(x, "swaps", order(-1), (y, a) -> y.swaps(a[0], a[1]), nobody, nobody);
        all(x, "turn", order(-1), (y, a) -> y.turn(a[0], a[1], a[2]), nobody, anything, anything);
        all(x, "pairThen", order(-1), (y, a) -> y.pairThen(a[0], a[1], a[2]), nobody, anything, anything);
        Values nobodyNorAll = right(-1).wrong(-1, 0, -2, 1, LEAST, GREATEST);
        all(x, "bruisesThen", order(-1), (y, a) -> y.bruisesThen(a[0], a[1]), nobodyNorAll, right(0, 60));
        all(x, "faced", order(-1), (y, a) -> y.faced(a[0]), right(-1, -2).wrong(-1, 0, -3, 1, LEAST, GREATEST));
        all(x, "done", order(-1), (y, a) -> y.done(a[0]), nobody);
        all(x, "hurt", order(-1), (y, a) -> y.hurt(a[0], a[1]), nobody, anything);
        all(x, "begins", order(-1), (y, a) -> y.begins(a[0]), nobody);
        all(x, "bestKind", order(-1), (y, a) -> y.bestKind(a[0], a[1]), nobody, anything);
        all(x, "bestCell", order(-1), (y, a) -> y.bestCell(a[0], a[1]), nobody, anything);
        all(x, "hum", order(-1), (y, a) -> y.hum(a[0], a[1]), nobody, anything);
        all(x, "two", order(-1), (y, a) -> y.two(a[0], a[1]), nobody, anything);
        all(x, "cough", order(-1), (y, a) -> y.cough(a[0], a[1], a[1], a[1], a[2]), nobody, anything, anything);
        all(x, "whatIs", order(-1), (y, a) -> y.whatIs(a[0], a[1]), nobody, anything);
    }

    /** With four PAIRS 3 is the last of them, and 7 the last MINER. */
    private static void ofFourPairs() {
        Supplier<LampOfTheSilent> x = RefusalsTest::fourPairs;
        Values pair = right(0, 3).wrong(-1, -1, 4, 7, GREATEST, LEAST);
        Values miner = right(0, 7).wrong(-1, -1, 8, 9, GREATEST, LEAST);
        DUE.by("I", "PAIRS 0 .. as they come (4 at most)");
        all(x, "pair", order(-1), (y, a) -> y.pair(a[0], 0), pair);
        all(x, "stands", order(-1), (y, a) -> y.stands(a[0], 5), pair);
        all(x, "adds", order(-1), (y, a) -> y.adds(a[0], 5), pair);
        all(x, "pairThen", order(-1), (y, a) -> y.pairThen(a[0], 5, 0), pair);
        all(x, "done", order(-1), (y, a) -> y.done(a[0]), pair);
        all(x, "begins", order(-1), (y, a) -> y.begins(a[0]), pair);
        all(x, "bestCell", order(-1), (y, a) -> y.bestCell(a[0], 0), pair);
        all(x, "hum", order(-1), (y, a) -> y.hum(a[0], 5), pair);
        all(x, "two", order(-1), (y, a) -> y.two(a[0], 5), pair);
        all(x, "cough", order(-1), (y, a) -> y.cough(a[0], 5, 2, 5, 0), pair);
        all(x, "faced", order(-1), (y, a) -> y.faced(a[0]), right(0, 3, -1, -2).wrong(-1, -3, 4, GREATEST, LEAST));
        DUE.by("I", "MINERS are told 0 .. as 2 times the PAIR and 0, 1.");
        all(x, "miner", order(-1), (y, a) -> y.miner(a[0], 0), miner);
        all(x, "swaps", order(-1), (y, a) -> y.swaps(a[0], 1), miner);
        all(x, "swaps other", order(-1), (y, a) -> y.swaps(1, a[0]), miner);
        all(x, "turn", order(-1), (y, a) -> y.turn(a[0], 5, 5), miner);
        all(x, "hurt", order(-1), (y, a) -> y.hurt(a[0], 5), miner);
        all(x, "bestKind", order(-1), (y, a) -> y.bestKind(a[0], 0), miner);
        all(x, "whatIs", order(-1), (y, a) -> y.whatIs(a[0], 0), miner);
        Values minerOrAll = right(0, 7, -1).wrong(-1, -2, 8, 9, GREATEST, LEAST);
        all(x, "bruisesThen", order(-1), (y, a) -> y.bruisesThen(a[0], 5), minerOrAll);
    }

    private static void ofAllFull() {
        Supplier<LampOfTheSilent> x = RefusalsTest::allFull;
        DUE.by("Promise 2", "-4; -6 (255; 96, too).");
        Values letter = right().wrong(-4, -1, LEAST).wrong(-6, 0, ';', 255, 256, GREATEST);
        all(x, "with 96 of them letter", order(-4, -6), (y, a) -> y.letter(a[0]), letter);
        DUE.by("Promise 31", "-4; -6 (99; 16, too).");
        Values number = right().wrong(-4, -1, LEAST).wrong(-6, 0, 3, 99, 100, GREATEST);
        all(x, "with 16 of them row", order(-4, -6), (y, a) -> y.row(a[0]), number);
    }

    private static void ofTheLastMinutes() {
        DUE.by("Promise 12", "-4; -6 (60; MINUTE above 999).");
        Ask minutes = (y, a) -> y.minutes(a[0]);
        Values none = right().wrong(-4, 0, -1, LEAST).wrong(-6, 1, 60, 61, GREATEST);
        all(() -> atMinute(999), "at MINUTE 999 minutes", order(-4, -6), minutes, none);
        all(() -> atMinute(998), "at MINUTE 998 minutes", order(-4, -6), minutes, numbers(1, 1).wrong(-6, 2, 60, 61));
        all(() -> atMinute(940), "at MINUTE 940 minutes", order(-4, -6), minutes, numbers(1, 59).wrong(-6, 60, 61));
        all(() -> atMinute(939), "at MINUTE 939 minutes", order(-4, -6), minutes, numbers(1, 60));
    }

    private static void ofTwoOfTheSame() {
        DUE.by("Promise 10", "-1 either (one twice, too).");
        Supplier<LampOfTheSilent> x = RefusalsTest::ordinary;
        Values itself = right().wrong(-1, 0, 1, 2, 3, 4, -1);
        all(x, "swaps with himself", order(-1), (y, a) -> y.swaps(a[0], a[0]), itself);
    }

    private static void ofNoImage() {
        DUE.by("Promise 36", "ON from it: MINUTE. -3 there is none.");
        Supplier<LampOfTheSilent> none = () -> Due.rowed(Due.tell(Due.mineOf("pt1d2;t005;m02;"), "m01;"), 0, 0);
        all(none, "on", order(-3), (y, a) -> y.on(), right().wrong(-3, 0));
        all(RefusalsTest::ordinary, "with one on", order(-3), (y, a) -> y.on(), right(0));
    }

    private static void howManyThereWere() {
        DUE.by("Promise 37", "11 .. 16 REFUSALS -1 .. -6.");
        LampOfTheSilent x = new LampOfTheSilent();
        List<Runnable> refused = new ArrayList<>(List.of(() -> x.beams(20), () -> x.mean(2), () -> x.on(),
                () -> x.row(-1), () -> x.count(99), () -> x.props(0, 4)));
        for (int k = 0; k < 6; k++) {
            for (int i = 0; i < 10 * (k + 1); i++) {
                refused.get(k).run();
            }
        }
        int[] due = {10, 20, 30, 40, 0, 60};
        for (int k = 0; k < 6; k++) {
            DUE.is("count(" + (11 + k) + ")", x.count(11 + k), due[k]);
        }
        DUE.is("cough(0, 0, 0, 0, 0)", x.cough(0, 0, 0, 0, 0), LONG + 1);
        DUE.is("count(11) behind a refusal of a long", x.count(11), 11);
    }

    private static void whatIsNoRefusal() {
        DUE.by("Promise 37", "-9 for another what.");
        LampOfTheSilent x = ordinary();
        List<Long> before = Seen.refusals(x);
        for (int what : new int[] {-1, 8, 9, 10, 17, 18, -11, -16, LEAST, GREATEST}) {
            DUE.is("count(" + what + ")", x.count(what), -9);
        }
        DUE.is("they are REFUSALS", Seen.refusals(x).equals(before) ? 0 : 1, 0);
        DUE.by("Promise 3", "the FAULT (nothing is counted).");
        DUE.is("mine()", x.mine(), -1008);
        DUE.is("mine()", x.mine(), -1000);
        DUE.is("mine()", Due.tell(x, "b200;").mine(), -2000);
        DUE.is("they are REFUSALS", Seen.refusals(x).equals(before) ? 0 : 1, 0);
    }
}
