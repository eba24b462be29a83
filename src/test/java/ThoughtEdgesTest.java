/** The boundary cases of part II up to BEST CELL, and of promises 13 to 22; sentence by sentence. */
public final class ThoughtEdgesTest {
    private static final Due DUE = new Due();
    private static final String BEAMS_1 = "b011;b021;b031;b041;b051;b061;b071;b081;b091;b101;";
    private static final String BEAMS_1_ON = "b111;b121;b131;b141;b151;b161;b171;b181;b191;";
    private static final String TO_MINUTE_999 = "m60;".repeat(16) + "m39;";

    public static void main(String[] args) {
        passesMinute999();
        whoWouldSpeak();
        noMinutes();
        sixtyMinutes();
        bruisesOfAll();
        facedFirst();
        firstOfSeveral();
        firstOfNobody();
        allFaced();
        facedOfOneFirstAndAll();
        doneFirst();
        doneNever();
        hurtFirst();
        hurtNever();
        hurt99();
        waitAtItsEnds();
        waitOfSeveral();
        waitWhateverThereIs();
        clearOfNoMinutes();
        clearNothing();
        clearOfSeveral();
        clearTheFirstAndTheLastCell();
        clearAt99Bruises();
        changeOfTooFew();
        changeIsNoRefusal();
        changeNoSooner();
        changeOfSeveral();
        changeTheSoonest();
        changeTheLastMiners();
        turnOfSeveral();
        turnOfTheLast();
        turnAtTheFace();
        bestCellAtItsEnds();
        bestCellOfSeveral();
        bestCellOfWhoSpeaks();
        bestCellWithToSay();
        bestCellAt99Bruises();
        nothingIsChanged();
        DUE.end();
    }

    private static LampOfTheSilent mine(String... texts) {
        return Due.mineOf(texts);
    }

    private static void passesMinute999() {
        DUE.by("II", "(In thought MINUTE may pass 999.)");
        LampOfTheSilent x = mine(TO_MINUTE_999, "pd0f0;pm0o0;t120;b011;b021;b042;");
        DUE.is("count(1)", x.count(1), 999);
        // Minute 1000 is even: the father speaks; in 1001 the deaf one goes 3.
        int[] cells = {0, 1, 4, 5, 8, 9, 12, 13, 16, 17, 19};
        for (int n = 0; n < cells.length; n++) {
            DUE.is("pairThen(0, " + n + ", 0)", x.pairThen(0, n, 0), cells[n]);
        }
        DUE.is("pair(0, 2)", x.pair(0, 2), 1);
        DUE.is("bruisesThen(1, 1)", x.bruisesThen(1, 1), 1);
        DUE.is("bruisesThen(-1, 60)", x.bruisesThen(-1, 60), 5);
        DUE.is("faced(0)", x.faced(0), 10);
        DUE.is("faced(-2)", x.faced(-2), 19);
        DUE.is("done(1)", x.done(1), -9);
        DUE.is("hurt(1, 1)", x.hurt(1, 1), 1);
        DUE.is("begins(0)", x.begins(0), 5);
        DUE.is("clears(1)", x.clears(1), 1);
        DUE.is("bestKind(1, 1)", x.bestKind(1, 1), 7);
        DUE.is("hum(0, 7)", x.hum(0, 7), 0);
        DUE.is("two(1, 30)", x.two(1, 30), 0);
        DUE.is("cough(0, 1, 2, 2, 0)", x.cough(0, 1, 2, 2, 0), 0);
        DUE.is("cough(0, 2, 2, 4, 1)", x.cough(0, 2, 2, 4, 1), 2);
        DUE.is("whatIs(1, 0) of a talker, a father, an overseer", Due.rowed(x, 0, 1).whatIs(1, 0), 52);
        DUE.is("whatIs(1, 0) of a father", Due.rowed(x, 0, 1, 4).whatIs(1, 0), 16);
        // The seed 0 draws CELL 3 for PAIR 0, whose father speaks in MINUTE 1000.
        DUE.is("lots(1, 0, 1)", x.lots(1, 0, 1), 2);
        DUE.is("count(1) still", x.count(1), 999);
        DUE.is("count(16)", x.count(16), 0);
    }

    private static void whoWouldSpeak() {
        DUE.by("II", "Who would SPEAK in the next MINUTE in a PAIR (0, 1; -9 nobody, AT the FACE too).");
        DUE.is("both want to", mine("pt0t0;").pair(0, 2), 0);
        DUE.is("the first wants to", mine("pt0d0;").pair(0, 2), 0);
        DUE.is("the second wants to", mine("pd0t0;").pair(0, 2), 1);
        DUE.is("nobody wants to", mine("pd0d0;").pair(0, 2), -9);
        DUE.is("in CELL 18", mine("pt0t0;a018;").pair(0, 2), 0);
        DUE.is("AT the FACE", mine("pt0t0;a019;").pair(0, 2), -9);
        DUE.is("AT the FACE with TO SAY", mine("pm0s0;a019;t009;").pair(0, 2), -9);
        DUE.is("the next MINUTE is even", mine("m01;pd0f0;").pair(0, 2), 1);
        DUE.is("the next MINUTE is odd", mine("pd0f0;").pair(0, 2), -9);
    }

    private static void noMinutes() {
        DUE.by("II", "In mind, n MINUTES on (0 .. 60): where a PAIR is; TO SAY; BRUISES of a MINER; all BRUISES.");
        LampOfTheSilent x = mine("pt0d0;b012;b021;t005;m01;");
        DUE.is("pairThen(0, 0, 0)", x.pairThen(0, 0, 0), 1);
        DUE.is("pairThen(0, 0, 1)", x.pairThen(0, 0, 1), 4);
        DUE.is("bruisesThen(0, 0)", x.bruisesThen(0, 0), 2);
        DUE.is("bruisesThen(-1, 0)", x.bruisesThen(-1, 0), 2);
        DUE.is("pairThen(0, 1, 0)", x.pairThen(0, 1, 0), 2);
        DUE.is("pairThen(0, 1, 1)", x.pairThen(0, 1, 1), 3);
        DUE.is("bruisesThen(0, 1)", x.bruisesThen(0, 1), 3);
        DUE.is("bruisesThen(-1, 1)", x.bruisesThen(-1, 1), 3);
    }

    private static void sixtyMinutes() {
        DUE.by("Promise 13", "Where it is (what 0), TO SAY (1). -1; -4; -6 60; -2.");
        LampOfTheSilent x = mine("pt0d0;t030;", BEAMS_1, BEAMS_1_ON);
        DUE.is("pairThen(0, 18, 0)", x.pairThen(0, 18, 0), 18);
        DUE.is("pairThen(0, 19, 0)", x.pairThen(0, 19, 0), 19);
        DUE.is("pairThen(0, 60, 0)", x.pairThen(0, 60, 0), 19);
        DUE.is("pairThen(0, 60, 1)", x.pairThen(0, 60, 1), 11);
        DUE.is("pairThen(0, 0, 1)", x.pairThen(0, 0, 1), 30);
        DUE.is("pairThen(0, 7, 1)", x.pairThen(0, 7, 1), 23);
        DUE.is("pairThen(0, 61, 0)", x.pairThen(0, 61, 0), -6);
        DUE.by("Promise 14", "BRUISES of one; of all (miner -1). -1; -4; -6 60.");
        DUE.is("bruisesThen(0, 18)", x.bruisesThen(0, 18), 18);
        DUE.is("bruisesThen(0, 60)", x.bruisesThen(0, 60), 19);
        DUE.is("bruisesThen(1, 60)", x.bruisesThen(1, 60), 0);
        DUE.is("bruisesThen(0, 61)", x.bruisesThen(0, 61), -6);
        DUE.is("bruisesThen(0, -1)", x.bruisesThen(0, -1), -4);
    }

    private static void bruisesOfAll() {
        DUE.by("Promise 14", "of all (miner -1)");
        LampOfTheSilent none = new LampOfTheSilent();
        DUE.is("bruisesThen(-1, 60) of nobody", none.bruisesThen(-1, 60), 0);
        DUE.is("bruisesThen(-2, 0)", none.bruisesThen(-2, 0), -1);
        DUE.is("bruisesThen(0, 0) of nobody", none.bruisesThen(0, 0), -1);
        LampOfTheSilent four = mine("pt0d0;pd0t0;pt0d0;pd0t0;b013;b023;");
        DUE.is("bruisesThen(-1, 2) of four PAIRS", four.bruisesThen(-1, 2), 24);
        DUE.is("bruisesThen(7, 2)", four.bruisesThen(7, 2), 6);
        DUE.is("bruisesThen(6, 2)", four.bruisesThen(6, 2), 0);
    }

    private static void facedFirst() {
        DUE.by("II", "FACED: behind how many MINUTES (0 .. 60) a PAIR is AT the FACE first; -9;");
        DUE.is("AT the FACE", mine("pt0t0;a019;").faced(0), 0);
        DUE.is("in CELL 18", mine("pd0d0;a018;").faced(0), 1);
        DUE.is("3 CELLS ahead of it", mine("pd0d0;a016;").faced(0), 1);
        DUE.is("4 CELLS ahead of it", mine("pd0d0;a015;").faced(0), 2);
        String kinds = "mstdfo";
        int slowest = 0;
        for (int first = 0; first < 6; first++) {
            for (int second = 0; second < 6; second++) {
                for (int words = 0; words <= 99; words += 33) {
                    LampOfTheSilent x = mine("p" + kinds.charAt(first) + "0" + kinds.charAt(second) + "9;");
                    x.adds(0, words);
                    DUE.is("faced(0) is found, so that it is not -9", x.faced(0) >= 7 ? 1 : 0, 1);
                    slowest = Math.max(slowest, x.faced(0));
                }
            }
        }
        DUE.is("the slowest of all", slowest, 19);
    }

    private static void firstOfSeveral() {
        DUE.by("II", "FIRST: which is, of several the least; -9;");
        DUE.is("all alike", mine("pd0d0;pd0d0;pd0d0;pd0d0;").faced(-1), 0);
        DUE.is("1 and 3 alike", mine("pm0m0;pd0d0;pm0m0;pd0d0;").faced(-1), 1);
        DUE.is("the last alone", mine("pm0m0;pm0m0;pm0m0;pd0d0;").faced(-1), 3);
        DUE.is("2 and 3 AT the FACE", mine("pm0m0;pd0d0;pm0m0;pd0d0;a219;a319;").faced(-1), 2);
        DUE.is("the last AT the FACE, all others 1 MINUTE from it",
                mine("pt0t0;pd0d0;pm0m0;pd0d0;a018;a116;a217;a319;").faced(-1), 3);
        DUE.is("the farthest on is not the first there", mine("pt0t0;pd0d0;a015;a110;").faced(-1), 1);
    }

    private static void firstOfNobody() {
        DUE.by("Promise 15", "FIRST (pair -1; -9)");
        LampOfTheSilent none = new LampOfTheSilent();
        DUE.is("faced(-1) of nobody", none.faced(-1), -9);
        DUE.is("it is no REFUSAL", none.count(11), 0);
        DUE.is("faced(0) of nobody", none.faced(0), -1);
        DUE.is("faced(-3)", none.faced(-3), -1);
        DUE.is("they are", none.count(11), 2);
    }

    private static void allFaced() {
        DUE.by("II", "ALL FACED (0, if there are no PAIRS); -9.");
        DUE.is("no PAIRS", new LampOfTheSilent().faced(-2), 0);
        DUE.is("all AT the FACE", mine("pt0t0;pt0t0;a019;a119;").faced(-2), 0);
        DUE.is("all but the last AT the FACE", mine("pt0t0;pt0t0;a019;a118;").faced(-2), 1);
        DUE.is("all but the first AT the FACE", mine("pt0t0;pt0t0;a018;a119;").faced(-2), 1);
        DUE.is("the slowest counts", mine("pd0d0;pt0t0;pm0m0;").faced(-2), 19);
    }

    private static void facedOfOneFirstAndAll() {
        DUE.by("Promise 15", "FACED; -9; FIRST (pair -1; -9), ALL FACED (-2; -9). -1.");
        LampOfTheSilent x = mine("pm0m0;pd0d0;pt0t0;pd0d0;");
        int[] due = {19, 1, 10, 7, 19, 7};
        for (int pair = -2; pair < 4; pair++) {
            DUE.is("faced(" + pair + ")", x.faced(pair), due[pair + 2]);
        }
        DUE.is("faced(-3)", x.faced(-3), -1);
        DUE.is("faced(4)", x.faced(4), -1);
    }

    private static void doneFirst() {
        DUE.by("II", "DONE: behind how many MINUTES TO SAY of a PAIR is 0 first; -9.");
        DUE.is("TO SAY 0", mine("pm0m0;").done(0), 0);
        DUE.is("TO SAY 1", mine("pm0m0;t001;").done(0), 1);
        DUE.is("TO SAY 19 for 19 CELLS", mine("pm0m0;t019;").done(0), 19);
        DUE.is("TO SAY 1 for 1 CELL", mine("pm0m0;a018;t001;").done(0), 1);
        DUE.is("TO SAY 0 AT the FACE", mine("pm0m0;a019;").done(0), 0);
        DUE.is("TO SAY 3 of a father, in even minutes alone", mine("pf0d0;t003;").done(0), 6);
    }

    private static void doneNever() {
        DUE.by("Promise 16", "DONE; -9. -1.");
        DUE.is("TO SAY 20 for 19 CELLS", mine("pm0m0;t020;").done(0), -9);
        DUE.is("TO SAY 99", mine("pm0m0;t099;").done(0), -9);
        DUE.is("TO SAY 2 for 1 CELL", mine("pm0m0;a018;t002;").done(0), -9);
        DUE.is("TO SAY 1 AT the FACE", mine("pt0t0;a019;t001;").done(0), -9);
        DUE.is("TO SAY 1 of the deaf", mine("pd0d0;t001;").done(0), -9);
    }

    private static void hurtFirst() {
        DUE.by("II", "HURT: behind how many a MINER is BRUISED v (0 .. 99) or more first; -9.");
        LampOfTheSilent x = mine("pt0d0;b012;b033;");
        int[] due = {0, 1, 1, 3, 3, 3, -9, -9};
        for (int v = 0; v < due.length; v++) {
            DUE.is("hurt(0, " + v + ")", x.hurt(0, v), due[v]);
        }
        x.minutes(1);
        DUE.is("hurt(0, 2) of who is it", x.hurt(0, 2), 0);
        DUE.is("hurt(0, 3) of who is not", x.hurt(0, 3), 2);
    }

    private static void hurtNever() {
        DUE.by("Promise 17", "HURT; -9. -1; -4; -6 99.");
        DUE.is("hurt(1, 0) of who holds the lamp", mine("pt0d0;b012;").hurt(1, 0), 0);
        DUE.is("hurt(1, 1) of who holds the lamp", mine("pt0d0;b012;").hurt(1, 1), -9);
        DUE.is("hurt(0, 1) AT the FACE", mine("pt0d0;b193;a019;").hurt(0, 1), -9);
        DUE.is("hurt(0, 1) in CELL 18", mine("pt0d0;b193;a018;").hurt(0, 1), 1);
        DUE.is("hurt(0, 19)", mine("pt0d0;", BEAMS_1, BEAMS_1_ON).hurt(0, 19), 19);
        DUE.is("hurt(0, 20)", mine("pt0d0;", BEAMS_1, BEAMS_1_ON).hurt(0, 20), -9);
        DUE.is("hurt(0, 99)", mine("pt0d0;", BEAMS_1, BEAMS_1_ON).hurt(0, 99), -9);
        DUE.is("hurt(0, 100)", mine("pt0d0;").hurt(0, 100), -6);
        DUE.is("hurt(0, -1)", mine("pt0d0;").hurt(0, -1), -4);
    }

    private static void hurt99() {
        DUE.by("II", "BRUISED v (0 .. 99) or more");
        DUE.is("99 of 99", Due.bruised(99, 3).hurt(0, 99), 0);
        DUE.is("99 of 98 and 1", Due.bruised(98, 1).hurt(0, 99), 1);
        DUE.is("99 of 98 and 3", Due.bruised(98, 3).hurt(0, 99), 1);
        DUE.is("99 of 98 and 0", Due.bruised(98, 0).hurt(0, 99), -9);
        DUE.is("98 of 98", Due.bruised(98, 0).hurt(0, 98), 0);
    }

    private static void waitAtItsEnds() {
        DUE.by("II", "WAIT: how much TO SAY a PAIR had best begin with now (0 .. 20)");
        DUE.is("AT the FACE only 0 is 0", mine("pt0t0;a019;").begins(0), 0);
        DUE.is("the deaf say nothing", mine("pd0d0;").begins(0), 0);
        DUE.is("1 CELL of a talker", mine("pt0d0;a018;").begins(0), 1);
        DUE.is("2 CELLS of a talker", mine("pt0d0;a017;").begins(0), 2);
        DUE.is("18 CELLS of a talker", mine("pt0d0;a001;").begins(0), 18);
        DUE.is("19 CELLS of a talker: 20 are too many", mine("pt0d0;").begins(0), 19);
        DUE.is("a second who talks", mine("pd0t0;").begins(0), 19);
    }

    private static void waitOfSeveral() {
        DUE.by("II", "so that it is AT the FACE with TO SAY 0 soonest, of several the greatest; -9.");
        // With v words it takes v minutes and half of what is left, rounded up.
        DUE.is("0 and 1 of 19 CELLS take 10", mine("pm0m0;").begins(0), 1);
        DUE.is("0 alone takes 9 of 18", mine("pm0m0;a001;").begins(0), 0);
        DUE.is("0 and 1 of 3 CELLS take 2", mine("pm0m0;a016;").begins(0), 1);
        DUE.is("0 and 1 of 1 CELL take 1", mine("pm0m0;a018;").begins(0), 1);
        DUE.is("a shy one keeps his words at BEAMS", mine("ps0d0;a018;b191;").begins(0), 0);
        DUE.is("a deaf one's lamp, a father's words", mine("pd0f0;").begins(0), 4);
    }

    private static void waitWhateverThereIs() {
        DUE.by("Promise 18", "WAIT; -9. -1.");
        DUE.is("TO SAY 99 now", mine("pt0d0;t099;").begins(0), 19);
        LampOfTheSilent x = mine("pd0d0;t007;");
        DUE.is("TO SAY 7 now", x.begins(0), 0);
        DUE.is("it stays", x.pair(0, 1), 7);
        DUE.is("AT the FACE with TO SAY 1 now", mine("pt0t0;a019;t001;").begins(0), 0);
    }

    private static void clearOfNoMinutes() {
        DUE.by("II", "CLEAR: the CELL whose BEAMS, taken away now, make all BRUISES behind n MINUTES (0 .. 40) least");
        LampOfTheSilent x = mine("pt0d0;b011;b022;b193;");
        DUE.is("clears(-1)", x.clears(-1), -4);
        DUE.is("clears(0)", x.clears(0), -9);
        DUE.is("clears(1)", x.clears(1), 1);
        DUE.is("clears(2)", x.clears(2), 2);
        DUE.is("clears(18)", x.clears(18), 2);
        DUE.is("clears(19)", x.clears(19), 19);
        DUE.is("clears(40)", x.clears(40), 19);
        DUE.is("clears(41)", x.clears(41), -6);
        DUE.is("the BEAMS stay", x.timber(0), 6);
    }

    private static void clearNothing() {
        DUE.by("II", "less than else");
        DUE.is("nobody", mine("b013;").clears(40), -9);
        DUE.is("no BEAMS", mine("pt0d0;").clears(40), -9);
        DUE.is("nobody speaks", mine("pd0d0;b013;b033;").clears(40), -9);
        DUE.is("all AT the FACE", mine("pt0d0;a019;b193;").clears(40), -9);
        DUE.is("behind them", mine("pt0d0;a005;b053;b043;").clears(40), -9);
        // Without the BEAMS ahead the shy one speaks, and walks into as many in the CELL behind it.
        DUE.is("as many else", mine("ps0d0;t002;b012;b022;b031;").clears(2), -9);
    }

    private static void clearOfSeveral() {
        DUE.by("II", "less than else, of several the least; -9.");
        DUE.is("all alike", mine("pt0d0;", BEAMS_1, BEAMS_1_ON).clears(40), 1);
        DUE.is("the last of more", mine("pt0d0;b011;b022;b032;").clears(40), 2);
        DUE.is("two PAIRS walk into it", mine("pt0d0;pt0d0;a103;b012;b041;b051;").clears(5), 1);
        DUE.is("two PAIRS walk into it", mine("pt0d0;pt0d0;a103;b011;b041;b051;").clears(5), 4);
    }

    private static void clearTheFirstAndTheLastCell() {
        DUE.by("I", "CELLS 0 .. 19");
        DUE.is("nobody walks into CELL 0", mine("pt0d0;b003;").clears(40), -9);
        DUE.is("the BEAMS of CELL 19", mine("pt0d0;a018;b191;").clears(1), 19);
    }

    private static void clearAt99Bruises() {
        DUE.by("I", "(so many more, 99 at most)");
        DUE.is("99 are 99 with BEAMS or without", Due.bruised(99, 3).clears(1), -9);
        DUE.is("98 are 99 with them", Due.bruised(98, 3).clears(1), 1);
        LampOfTheSilent x = Due.bruised(98, 1);
        x.props(2, 1);
        DUE.is("98 are 99 by those of 2, too", x.clears(2), -9);
    }

    private static void changeOfTooFew() {
        DUE.by("II", "CHANGE: the two MINERS of two PAIRS");
        DUE.is("nobody", new LampOfTheSilent().change(), -9);
        DUE.is("one PAIR: its own two are none", mine("pm0d0;").change(), -9);
        DUE.is("two PAIRS: the own two of the first are none", mine("pm0d0;pm0m0;a119;").change(), -9);
        DUE.is("two PAIRS: the own two of the second are none", mine("pm0m0;pm0d0;a019;").change(), -9);
        DUE.is("four PAIRS: the own two of the last are none",
                mine("pm0m0;pm0m0;pm0m0;pm0d0;a019;a119;a219;").change(), -9);
        DUE.is("two PAIRS without another KIND", mine("pm0m0;pm0m0;").change(), -9);
        DUE.is("two PAIRS of talkers: nobody of a third is there", mine("pt0d0;pt0t0;a119;").change(), -9);
    }

    private static void changeIsNoRefusal() {
        DUE.by("Promise 20", "CHANGE; -9.");
        LampOfTheSilent x = mine("pt0t0;pt0t0;");
        LampOfTheSilent twin = mine("pt0t0;pt0t0;");
        DUE.is("change()", x.change(), -9);
        DUE.is("it is no REFUSAL", Seen.refusals(x).equals(Seen.refusals(twin)) ? 1 : 0, 1);
        DUE.is("nobody has changed", Seen.areAlike(x, twin) ? 1 : 0, 1);
        LampOfTheSilent y = mine("pt0d0;pd0d0;a119;");
        DUE.is("change() of who had better", y.change(), 2);
        DUE.is("nobody has changed", y.miner(0, 0), 2);
    }

    private static void changeNoSooner() {
        DUE.by("II", "make all PAIRS AT the FACE soonest, sooner than now");
        DUE.is("all AT the FACE", mine("pt0t0;pd0d0;a019;a119;").change(), -9);
        DUE.is("as soon as now", mine("pt0d0;pt0d0;").change(), -9);
        DUE.is("later than now", mine("pd0d0;pt0t0;a118;").change(), -9);
        DUE.is("1 sooner than now", mine("pt0d0;pd0d0;a017;a119;").change(), 2);
    }

    private static void changeOfSeveral() {
        DUE.by("II", "of several the first; -9.");
        DUE.is("0 with 2 or 3", mine("pt0d0;pd0d0;a119;").change(), 2);
        DUE.is("0 with 3 alone", mine("pt0d0;pt0d0;a119;").change(), 3);
        DUE.is("1 with 2 or 3", mine("pd0t0;pd0d0;a119;").change(), 12);
        DUE.is("0 with 4 or 5", mine("pt0d0;pt0t0;pd0d0;a119;a219;").change(), 4);
    }

    private static void changeTheSoonest() {
        DUE.by("II", "CHANGE: the two MINERS of two PAIRS (10 the lesser and the other) which, changed now, make all PAIRS AT the FACE soonest");
        // With the miner 2 it takes 10 minutes, with the deaf 3 only 7.
        DUE.is("a later one is sooner", mine("pt0m0;pm0d0;a119;").change(), 3);
        DUE.is("an earlier one is sooner", mine("pt0m0;pd0m0;a119;").change(), 2);
    }

    private static void changeTheLastMiners() {
        DUE.by("II", "(10 the lesser and the other)");
        LampOfTheSilent x = mine("pt0t0;pt0t0;pd0t0;pt0d0;a019;a119;a319;");
        DUE.is("change()", x.change(), 57);
        DUE.is("faced(-2) ahead of it", x.faced(-2), 19);
        x.swaps(5, 7);
        DUE.is("faced(-2) behind it", x.faced(-2), 7);
    }

    private static void turnOfSeveral() {
        DUE.by("II", "TURN: the KIND for a MINER with which its PAIR is AT the FACE soonest, of several the least; -9; when.");
        LampOfTheSilent x = mine("pt0d0;");
        DUE.is("bestKind(0, 0): d alone", x.bestKind(0, 0), 3);
        DUE.is("bestKind(0, 1)", x.bestKind(0, 1), 7);
        DUE.is("bestKind(1, 0): all alike", x.bestKind(1, 0), 0);
        DUE.is("bestKind(1, 1)", x.bestKind(1, 1), 19);
        DUE.is("m, s, d and f alike from 17", mine("pt0d0;a017;").bestKind(0, 0), 0);
        LampOfTheSilent words = mine("pt0d0;t009;a017;b181;");
        DUE.is("s and d alike ahead of BEAMS with TO SAY", words.bestKind(0, 0), 1);
        DUE.is("when", words.bestKind(0, 1), 1);
        LampOfTheSilent second = mine("pd0t0;t009;a017;");
        DUE.is("d and f alike in an odd minute", second.bestKind(1, 0), 3);
        DUE.is("he stays", second.miner(1, 0), 2);
    }

    private static void turnOfTheLast() {
        DUE.by("Promise 21", "TURN: the KIND (what 0; -9), when (1; -9). -1; -2.");
        LampOfTheSilent x = mine("pd0d0;pd0d0;pd0d0;pm3t9;");
        DUE.is("bestKind(7, 0)", x.bestKind(7, 0), 0);
        DUE.is("bestKind(7, 1)", x.bestKind(7, 1), 10);
        DUE.is("bestKind(8, 0)", x.bestKind(8, 0), -1);
        DUE.is("bestKind(6, 2)", x.bestKind(6, 2), -2);
        DUE.is("the KIND stays", x.miner(7, 0), 2);
        DUE.is("the FIGURE stays", x.miner(7, 1), 9);
    }

    private static void turnAtTheFace() {
        DUE.by("II", "AT the FACE soonest, of several the least");
        LampOfTheSilent x = mine("pt0d0;a019;");
        DUE.is("bestKind(0, 0)", x.bestKind(0, 0), 0);
        DUE.is("bestKind(0, 1)", x.bestKind(0, 1), 0);
        DUE.is("bestKind(1, 0)", x.bestKind(1, 0), 0);
        DUE.is("bestKind(1, 1)", x.bestKind(1, 1), 0);
    }

    private static void bestCellAtItsEnds() {
        DUE.by("II", "BEST CELL: the CELL from which, TO SAY as it is, a PAIR walks into fewest BEAMS");
        LampOfTheSilent x = mine("pt0d0;", BEAMS_1, BEAMS_1_ON);
        DUE.is("BEAMS in all ahead: only the FACE is without", x.bestCell(0, 0), 19);
        DUE.is("how many", x.bestCell(0, 1), 0);
        x.props(19, 0);
        DUE.is("none in CELL 19", x.bestCell(0, 0), 18);
        DUE.is("how many", x.bestCell(0, 1), 0);
        DUE.is("none at all", mine("pt0d0;a007;").bestCell(0, 0), 0);
        DUE.is("those of CELL 0 are behind them", mine("pt0d0;b003;").bestCell(0, 0), 0);
        DUE.is("those of CELL 1 are not", mine("pt0d0;b011;").bestCell(0, 0), 1);
    }

    private static void bestCellOfSeveral() {
        DUE.by("II", "till it is AT the FACE (within 60), of several the least; -9; how many.");
        LampOfTheSilent x = mine("pt0d0;b093;a015;");
        DUE.is("9 .. 19 alike, wherever they are", x.bestCell(0, 0), 9);
        DUE.is("how many", x.bestCell(0, 1), 0);
        DUE.is("they stay", x.pair(0, 0), 15);
        DUE.is("AT the FACE", mine("pt0d0;b093;a019;").bestCell(0, 0), 9);
    }

    private static void bestCellOfWhoSpeaks() {
        DUE.by("II", "(who SPEAKS does)");
        LampOfTheSilent x = mine("pd0d0;", BEAMS_1, BEAMS_1_ON);
        DUE.is("nobody speaks", x.bestCell(0, 0), 0);
        // From 0 the father is silent on the way to 1, speaks on the way to 2; the other way round in an even minute.
        DUE.is("a father in odd minutes", mine("pf0d0;b011;b031;").bestCell(0, 0), 0);
        DUE.is("a father in even minutes", mine("pf0d0;b021;").bestCell(0, 0), 1);
        DUE.is("the second speaks", mine("pd0t0;b121;").bestCell(0, 0), 12);
        DUE.is("an overseer of 0 in MINUTE 3", mine("m02;po0d0;b011;").bestCell(0, 0), 0);
        DUE.is("an overseer of 0 in MINUTE 2", mine("m01;po0d0;b011;").bestCell(0, 0), 1);
        DUE.is("an overseer of 0 in MINUTES 1 and 2", mine("po0d0;b012;b021;").bestCell(0, 0), 2);
        DUE.is("of PAIR 3", mine("pd0d0;pd0d0;pd0d0;pd0t0;b051;").bestCell(3, 0), 5);
        DUE.is("of PAIR 2", mine("pd0d0;pd0d0;pd0d0;pd0t0;b051;").bestCell(2, 0), 0);
    }

    private static void bestCellWithToSay() {
        DUE.by("Promise 22", "BEST CELL: which (what 0; -9), how many (1; -9). -1; -2.");
        LampOfTheSilent x = mine("pm0m0;b012;b022;");
        DUE.is("TO SAY 0", x.bestCell(0, 0), 0);
        x.adds(0, 1);
        DUE.is("TO SAY 1", x.bestCell(0, 0), 2);
        x.props(1, 0);
        DUE.is("TO SAY 1 without those of CELL 1", x.bestCell(0, 0), 0);
        x.adds(0, 1);
        DUE.is("TO SAY 2 without those of CELL 1", x.bestCell(0, 0), 2);
        DUE.is("how many", x.bestCell(0, 1), 0);
    }

    private static void bestCellAt99Bruises() {
        DUE.by("II", "a PAIR walks into fewest BEAMS");
        LampOfTheSilent x = Due.bruised(99, 3);
        DUE.is("BEAMS count that BRUISE no more", x.bestCell(0, 0), 1);
    }

    private static void nothingIsChanged() {
        DUE.by("II", "In mind");
        LampOfTheSilent x = mine("pm1s2;pf3o4;t009;t103;b023;b051;m02;");
        LampOfTheSilent twin = mine("pm1s2;pf3o4;t009;t103;b023;b051;m02;");
        x.faced(-1);
        x.faced(-2);
        x.clears(40);
        x.change();
        for (int p = 0; p < 2; p++) {
            x.pair(p, 2);
            x.pairThen(p, 60, 0);
            x.faced(p);
            x.done(p);
            x.begins(p);
            x.bestCell(p, 0);
        }
        for (int m = -1; m < 4; m++) {
            x.bruisesThen(m, 60);
            x.hurt(Math.max(0, m), 99);
            x.bestKind(Math.max(0, m), 0);
        }
        DUE.is("all is as it was", Seen.areAlike(x, twin) ? 1 : 0, 1);
    }
}
