/** The REFUSALS of every promise, each ahead of those that are told behind it, and that they change only their count. */
public final class RefusalsTest {
    private static final Due DUE = new Due();
    private static final int LEAST = Integer.MIN_VALUE;
    private static final int GREATEST = Integer.MAX_VALUE;
    private static final long LONG = 4000000000000000000L;
    private static final int[] NO_PAIR = {-1, 2, 4, LEAST, GREATEST};
    private static final int[] NO_MINER = {-1, 4, 8, LEAST, GREATEST};
    private static final int[] NO_CELL = {-1, 20, LEAST, GREATEST};
    private static final int[] NO_TWO = {-1, 2, LEAST, GREATEST};
    private static final int[] BELOW_0 = {-1, LEAST};

    private final LampOfTheSilent x = Due.mineOf("pt1d2;pm3s4;t005;b071;a103;m01;");
    private final int[] refusals = new int[7];

    public static void main(String[] args) {
        RefusalsTest test = new RefusalsTest();
        long before = test.seen();
        test.ofNow();
        test.ofMinds();
        test.ofBest();
        test.ofCough();
        test.ofRowAndLots();
        for (int k = 1; k <= 6; k++) {
            DUE.is("37: count(" + (10 + k) + ")", test.x.count(10 + k), test.refusals[k]);
        }
        DUE.is("refusals change nothing", test.seen(), before);
        ofNobody();
        DUE.end();
    }

    private void due(String call, int got, int want) {
        refusals[-want]++;
        DUE.is(call, got, want);
    }

    private void dueLong(String call, long got, int want) {
        refusals[-want]++;
        DUE.is(call, got, LONG - want);
    }

    private void ofNow() {
        for (int m : NO_MINER) {
            due("4: miner(" + m + ", 9)", x.miner(m, 9), -1);
            due("10: swaps(" + m + ", 0)", x.swaps(m, 0), -1);
            due("10: swaps(0, " + m + ")", x.swaps(0, m), -1);
            due("11: turn(" + m + ", 6, -1)", x.turn(m, 6, -1), -1);
        }
        due("10: swaps(3, 3)", x.swaps(3, 3), -1);
        for (int p : NO_PAIR) {
            due("5: pair(" + p + ", 9)", x.pair(p, 9), -1);
            due("8: stands(" + p + ", 0)", x.stands(p, 0), -1);
            due("9: adds(" + p + ", -1)", x.adds(p, -1), -1);
        }
        for (int c : NO_CELL) {
            due("6: beams(" + c + ")", x.beams(c), -1);
            due("7: props(" + c + ", -1)", x.props(c, -1), -1);
            due("7: props(" + c + ", 4)", x.props(c, 4), -1);
            due("8: stands(0, " + c + ")", x.stands(0, c), -1);
        }
        for (int what : new int[] {-1, 4, LEAST, GREATEST}) {
            due("4: miner(0, " + what + ")", x.miner(0, what), -2);
            due("24: first(" + what + ")", x.first(what), -2);
        }
        for (int what : new int[] {-1, 3, LEAST, GREATEST}) {
            due("5: pair(0, " + what + ")", x.pair(0, what), -2);
            due("25: timber(" + what + ")", x.timber(what), -2);
        }
        for (int kind : new int[] {-1, 6, LEAST, GREATEST}) {
            due("11: turn(0, " + kind + ", -1)", x.turn(0, kind, -1), -2);
        }
        for (int v : BELOW_0) {
            due("7: props(0, " + v + ")", x.props(0, v), -4);
            due("9: adds(0, " + v + ")", x.adds(0, v), -4);
            due("11: turn(0, 5, " + v + ")", x.turn(0, 5, v), -4);
            due("12: minutes(" + v + ")", x.minutes(v), -4);
            due("2: letter(" + v + ")", x.letter(v), -4);
        }
        due("12: minutes(0)", x.minutes(0), -4);
        due("12: minutes(61)", x.minutes(61), -6);
        due("12: minutes(max)", x.minutes(GREATEST), -6);
        due("7: props(0, 4)", x.props(0, 4), -6);
        due("7: props(0, max)", x.props(0, GREATEST), -6);
        due("9: adds(0, 100)", x.adds(0, 100), -6);
        due("9: adds(0, max)", x.adds(0, GREATEST), -6);
        due("11: turn(0, 5, 10)", x.turn(0, 5, 10), -6);
        due("11: turn(0, 5, max)", x.turn(0, 5, GREATEST), -6);
        due("2: letter(256)", x.letter(256), -6);
        due("2: letter(max)", x.letter(GREATEST), -6);
        due("36: on()", x.on(), -3);
    }

    private void ofMinds() {
        for (int p : NO_PAIR) {
            due("13: pairThen(" + p + ", -1, 2)", x.pairThen(p, -1, 2), -1);
            due("16: done(" + p + ")", x.done(p), -1);
            if (p != -1) {
                due("15: faced(" + p + ")", x.faced(p), -1);
            }
        }
        due("15: faced(-3)", x.faced(-3), -1);
        for (int m : NO_MINER) {
            due("17: hurt(" + m + ", -1)", x.hurt(m, -1), -1);
            if (m != -1) {
                due("14: bruisesThen(" + m + ", -1)", x.bruisesThen(m, -1), -1);
            }
        }
        due("14: bruisesThen(-2, 0)", x.bruisesThen(-2, 0), -1);
        for (int v : BELOW_0) {
            due("13: pairThen(0, " + v + ", 2)", x.pairThen(0, v, 2), -4);
            due("14: bruisesThen(0, " + v + ")", x.bruisesThen(0, v), -4);
            due("14: bruisesThen(-1, " + v + ")", x.bruisesThen(-1, v), -4);
            due("17: hurt(0, " + v + ")", x.hurt(0, v), -4);
        }
        for (int n : new int[] {61, GREATEST}) {
            due("13: pairThen(0, " + n + ", 2)", x.pairThen(0, n, 2), -6);
            due("14: bruisesThen(0, " + n + ")", x.bruisesThen(0, n), -6);
            due("14: bruisesThen(-1, " + n + ")", x.bruisesThen(-1, n), -6);
        }
        due("17: hurt(0, 100)", x.hurt(0, 100), -6);
        due("17: hurt(0, max)", x.hurt(0, GREATEST), -6);
        for (int what : NO_TWO) {
            due("13: pairThen(0, 60, " + what + ")", x.pairThen(0, 60, what), -2);
        }
    }

    private void ofBest() {
        for (int p : NO_PAIR) {
            due("18: begins(" + p + ")", x.begins(p), -1);
            due("22: bestCell(" + p + ", 2)", x.bestCell(p, 2), -1);
            due("23: hum(" + p + ", -1)", x.hum(p, -1), -1);
            due("27: two(" + p + ", -1)", x.two(p, -1), -1);
        }
        for (int m : NO_MINER) {
            due("21: bestKind(" + m + ", 2)", x.bestKind(m, 2), -1);
        }
        for (int what : NO_TWO) {
            due("21: bestKind(0, " + what + ")", x.bestKind(0, what), -2);
            due("22: bestCell(0, " + what + ")", x.bestCell(0, what), -2);
        }
        for (int v : BELOW_0) {
            due("19: clears(" + v + ")", x.clears(v), -4);
            due("23: hum(0, " + v + ")", x.hum(0, v), -4);
            due("27: two(0, " + v + ")", x.two(0, v), -4);
        }
        due("19: clears(41)", x.clears(41), -6);
        due("19: clears(max)", x.clears(GREATEST), -6);
        due("23: hum(0, 13)", x.hum(0, 13), -6);
        due("23: hum(0, max)", x.hum(0, GREATEST), -6);
        due("27: two(0, 31)", x.two(0, 31), -6);
        due("27: two(0, max)", x.two(0, GREATEST), -6);
    }

    private void ofCough() {
        for (int p : NO_PAIR) {
            dueLong("28: cough(" + p + ", -1, 1, -1, 2)", x.cough(p, -1, 1, -1, 2), -1);
        }
        for (int v : BELOW_0) {
            dueLong("28: n is " + v, x.cough(0, v, 21, 20, 2), -4);
            dueLong("28: v is " + v, x.cough(0, 8, 21, v, 2), -4);
            dueLong("28: t is " + v, x.cough(0, 8, v, 20, 2), -4);
        }
        dueLong("28: t is 1", x.cough(0, 8, 1, 20, 2), -4);
        dueLong("28: t is 0", x.cough(0, 8, 0, 20, 2), -4);
        dueLong("28: n is 8", x.cough(0, 8, 2, 0, 2), -6);
        dueLong("28: t is 21", x.cough(0, 7, 21, 0, 2), -6);
        dueLong("28: v is 20", x.cough(0, 7, 20, 20, 2), -6);
        dueLong("28: n is the greatest", x.cough(0, GREATEST, 2, 0, 2), -6);
        dueLong("28: t is the greatest", x.cough(0, 0, GREATEST, 0, 2), -6);
        dueLong("28: v is the greatest", x.cough(0, 0, 2, GREATEST, 2), -6);
        for (int part : NO_TWO) {
            dueLong("28: part is " + part, x.cough(0, 7, 20, 19, part), -2);
            dueLong("29: mean(" + part + ")", x.mean(part), -2);
        }
    }

    private void ofRowAndLots() {
        for (int m : NO_MINER) {
            due("30: whatIs(" + m + ", 2)", x.whatIs(m, 2), -1);
        }
        for (int what : NO_TWO) {
            due("30: whatIs(0, " + what + ")", x.whatIs(0, what), -2);
            due("34: lots(20, 0, " + what + ")", x.lots(20, 0, what), -2);
            due("34: lots(21, 0, " + what + ")", x.lots(21, 0, what), -6);
            due("34: lots(0, 0, " + what + ")", x.lots(0, 0, what), -4);
        }
        for (int v : BELOW_0) {
            due("31: row(" + v + ")", x.row(v), -4);
            due("34: lots(" + v + ", 0, 0)", x.lots(v, 0, 0), -4);
        }
        due("31: row(100)", x.row(100), -6);
        due("31: row(max)", x.row(GREATEST), -6);
        due("34: lots(max, 0, 0)", x.lots(GREATEST, 0, 0), -6);
    }

    private static void ofNobody() {
        LampOfTheSilent none = new LampOfTheSilent();
        DUE.is("of nobody: miner", none.miner(0, 0), -1);
        DUE.is("of nobody: pair", none.pair(0, 0), -1);
        DUE.is("of nobody: swaps", none.swaps(0, 1), -1);
        DUE.is("of nobody: stands", none.stands(0, 0), -1);
        DUE.is("of nobody: faced", none.faced(0), -1);
        DUE.is("of nobody: bruisesThen(0, 0)", none.bruisesThen(0, 0), -1);
        DUE.is("of nobody: bruisesThen(-1, 60)", none.bruisesThen(-1, 60), 0);
        DUE.is("of nobody: whatIs", none.whatIs(0, 0), -1);
        DUE.is("of nobody: cough", none.cough(0, 0, 2, 0, 0), LONG + 1);
        DUE.is("of nobody: count(11)", none.count(11), 8);
        DUE.is("of nobody: change()", none.change(), -9);
        DUE.is("of nobody: count(11) still", none.count(11), 8);
    }

    private long seen() {
        long sum = 0;
        for (int what = 0; what < 8; what++) {
            sum = 31 * sum + x.count(what);
        }
        for (int m = 0; m < 4; m++) {
            sum = 31 * sum + 100 * x.miner(m, 2) + 10 * x.miner(m, 0) + x.miner(m, 1);
        }
        for (int p = 0; p < 2; p++) {
            sum = 31 * sum + 100 * x.pair(p, 0) + x.pair(p, 1);
        }
        for (int c = 0; c < 20; c++) {
            sum = 31 * sum + x.beams(c);
        }
        return sum;
    }
}
