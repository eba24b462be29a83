/** The boundary cases of part II from HUM on, and of promises 23 to 34; sentence by sentence. */
public final class OddsEdgesTest {
    private static final Due DUE = new Due();
    private static final int LEAST = Integer.MIN_VALUE;
    private static final int GREATEST = Integer.MAX_VALUE;
    private static final String BEAMS_1 = "b011;b021;b031;b041;b051;b061;b071;b081;b091;b101;";
    private static final String BEAMS_1_ON = "b111;b121;b131;b141;b151;b161;b171;b181;b191;";

    public static void main(String[] args) {
        humOfNoMinutes();
        humOfTwelve();
        humCanNot();
        humWhateverTheirKinds();
        aheadAndBehind();
        mostHurt();
        firstOfNobody();
        beamsOfAll();
        theCellOfMost();
        free();
        eager();
        together();
        twoNeverOrAlways();
        twoOfNoMinutes();
        twoOfThirty();
        twoAndThreeFewer();
        twoIfToSayIs0Then();
        twoAlwaysSettle();
        twoNear99();
        coughOfNoMinutes();
        coughOfSeven();
        coughOdds();
        coughCells();
        coughOfTheSecond();
        meanOfNobody();
        meanInLeastTerms();
        whatIsOfNoRow();
        whatIsOfSixteen();
        whatIsOfNoCell();
        whatIsBits();
        rowAtItsEnds();
        judged();
        judgedIsNoMore();
        clear();
        lotsAtTheirEnds();
        lotsCells();
        lotsToSay();
        lotsOfPairsByNumbers();
        lotsEachFromNow();
        lotsPassOver();
        lotsOfNobody();
        lotsNear99();
        nothingIsChanged();
        DUE.end();
    }

    private static LampOfTheSilent mine(String... texts) {
        return Due.mineOf(texts);
    }

    private static void humOfNoMinutes() {
        DUE.by("II", "HUM: for a PAIR with n MINUTES (0 .. 12)");
        DUE.is("hum(0, -1)", mine("pd0d0;a019;").hum(0, -1), -4);
        DUE.is("hum(0, 0) AT the FACE", mine("pd0d0;a019;").hum(0, 0), 0);
        DUE.is("hum(0, 0) in CELL 18", mine("pd0d0;a018;").hum(0, 0), -9);
        DUE.is("hum(0, 1) in CELL 18", mine("pd0d0;a018;").hum(0, 1), 0);
        DUE.is("hum(0, 12) AT the FACE", mine("pd0d0;a019;").hum(0, 12), 0);
    }

    private static void humOfTwelve() {
        DUE.by("Promise 23", "HUM; -9. -1; -4; -6 12.");
        DUE.is("12 minutes of 1 CELL", mine("pt0d0;a007;").hum(0, 12), 0);
        DUE.is("11 minutes of 1 CELL", mine("pt0d0;a007;").hum(0, 11), -9);
        DUE.is("12 minutes of 1 CELL from 6", mine("pt0d0;a006;").hum(0, 12), -9);
        DUE.is("hum(0, 13)", mine("pt0d0;a007;").hum(0, 13), -6);
    }

    private static void humCanNot() {
        DUE.by("II", "with which it is AT the FACE behind them; -9 it can not.");
        DUE.is("6 minutes of 3 CELLS", mine("pd0d0;").hum(0, 6), -9);
        DUE.is("7 minutes of 3 CELLS", mine("pd0d0;").hum(0, 7), 0);
        DUE.is("9 minutes of 2 CELLS", mine("pm0d0;").hum(0, 9), -9);
        DUE.is("10 minutes of 2 CELLS", mine("pm0d0;").hum(0, 10), 0);
        DUE.is("1 minute of 3 CELLS from 15", mine("pd0d0;a015;").hum(0, 1), -9);
        DUE.is("1 minute of 3 CELLS from 16", mine("pd0d0;a016;").hum(0, 1), 0);
        DUE.is("1 minute of 3 CELLS from 17: the FACE at most", mine("pd0d0;a017;b183;b193;").hum(0, 1), 0);
        DUE.is("1 minute of 3 CELLS from 18: the FACE at most", mine("pd0d0;a018;b193;").hum(0, 1), 0);
        LampOfTheSilent x = mine("pt0t0;pm0t0;pt0m0;pd0t0;");
        DUE.is("PAIR 1 by the lamp of MINER 2, 9 minutes", x.hum(1, 9), -9);
        DUE.is("PAIR 1 by the lamp of MINER 2, 10 minutes", x.hum(1, 10), 0);
        DUE.is("PAIR 2 by the lamp of MINER 4", x.hum(2, 12), -9);
        DUE.is("PAIR 3 by the lamp of MINER 6, 6 minutes", x.hum(3, 6), -9);
        DUE.is("PAIR 3 by the lamp of MINER 6, 7 minutes", x.hum(3, 7), 0);
        DUE.is("the same once more", x.hum(3, 7), 0);
        x.stands(3, 17);
        DUE.is("from CELL 17", x.hum(3, 1), 0);
        x.stands(3, 10);
        DUE.is("from CELL 10", x.hum(3, 2), -9);
    }

    private static void humWhateverTheirKinds() {
        DUE.by("II", "the first SPEAKS or neither does (whatever their KINDS; who holds the lamp goes as told)");
        LampOfTheSilent x = mine("pt0t0;a010;t009;", BEAMS_1, BEAMS_1_ON);
        DUE.is("talkers hum", x.hum(0, 9), 0);
        DUE.is("by the first one's lamp", x.hum(0, 8), -9);
        x.turn(1, 3, 0);
        DUE.is("not by the second's", x.hum(0, 8), -9);
        x.turn(0, 3, 0);
        DUE.is("by the first one's", x.hum(0, 3), 0);
    }

    private static void aheadAndBehind() {
        DUE.by("II", "AHEAD: the PAIR farthest on, of several the least; -9. BEHIND likewise least far.");
        LampOfTheSilent x = mine("pm0m0;pm0m0;pm0m0;pm0m0;");
        DUE.is("AHEAD, all in CELL 0", x.first(0), 0);
        DUE.is("BEHIND, all in CELL 0", x.first(1), 0);
        x.stands(2, 19);
        x.stands(3, 19);
        DUE.is("AHEAD, 2 and 3 AT the FACE", x.first(0), 2);
        DUE.is("BEHIND, 0 and 1 in CELL 0", x.first(1), 0);
        x.stands(0, 1);
        DUE.is("BEHIND, 1 alone in CELL 0", x.first(1), 1);
        x.stands(1, 19);
        DUE.is("AHEAD, 1 .. 3 AT the FACE", x.first(0), 1);
        DUE.is("BEHIND, 0 in CELL 1", x.first(1), 0);
        LampOfTheSilent y = mine("pm0m0;pm0m0;a001;");
        DUE.is("AHEAD by 1 CELL", y.first(0), 0);
        DUE.is("BEHIND by 1 CELL", y.first(1), 1);
        DUE.is("AHEAD of one alone", mine("pm0m0;").first(0), 0);
        DUE.is("BEHIND of one alone", mine("pm0m0;a019;").first(1), 0);
    }

    private static void mostHurt() {
        DUE.by("II", "MOST HURT: the MINER, of several the least; -9.");
        DUE.is("nobody is hurt", mine("pm0m0;pm0m0;").first(2), 0);
        DUE.is("nobody of one PAIR is hurt", mine("pm0m0;").first(2), 0);
        DUE.is("the second of one PAIR", mine("pd0t0;b011;m01;").first(2), 1);
        DUE.is("3 and 5 alike", mine("pd0d0;pd0t0;pd0t0;b013;m01;").first(2), 3);
        DUE.is("the last by 1", mine("pt0d0;pd0t0;a101;b012;b023;m01;").first(2), 3);
        DUE.is("the first by 1", mine("pt0d0;pd0t0;a101;b013;b022;m01;").first(2), 0);
        DUE.is("the last of four PAIRS", mine("pd0d0;pd0d0;pd0d0;pd0t0;b011;m01;").first(2), 7);
        LampOfTheSilent x = Due.tell(Due.bruised(99, 0), "pd0d0;x03;");
        x.mine();
        DUE.is("99 BRUISES", x.first(2), 3);
    }

    private static void firstOfNobody() {
        DUE.by("Promise 24", "AHEAD (what 0; -9), BEHIND (1; -9), MOST HURT (2; -9), TOGETHER (3). -2.");
        LampOfTheSilent none = new LampOfTheSilent();
        for (int what = 0; what < 3; what++) {
            DUE.is("first(" + what + ") of nobody", none.first(what), -9);
        }
        DUE.is("first(3) of nobody", none.first(3), 0);
        DUE.is("it is no REFUSAL", none.count(12), 0);
        DUE.is("first(4)", none.first(4), -2);
        DUE.is("first(-1)", none.first(-1), -2);
    }

    private static LampOfTheSilent allProps(int v) {
        LampOfTheSilent x = new LampOfTheSilent();
        for (int cell = 0; cell < 20; cell++) {
            x.props(cell, v);
        }
        return x;
    }

    private static void beamsOfAll() {
        DUE.by("Promise 25", "BEAMS: all (what 0), the CELL of most (1), FREE (2, bits). -2.");
        LampOfTheSilent x = mine("b011;b182;");
        int[] due = {3, 18, 786429};
        for (int what = 0; what < 3; what++) {
            DUE.is("timber(" + what + ")", x.timber(what), due[what]);
        }
        DUE.is("timber(3)", x.timber(3), -2);
        DUE.by("II", "BEAMS: all together;");
        DUE.is("none", new LampOfTheSilent().timber(0), 0);
        DUE.is("those of CELL 0", mine("b001;").timber(0), 1);
        DUE.is("those of CELL 19", mine("b193;").timber(0), 3);
        DUE.is("3 in each", allProps(3).timber(0), 60);
        DUE.is("count(5) of 3 in each", allProps(3).count(5), 60);
    }

    private static void theCellOfMost() {
        DUE.by("II", "the CELL of most, of several the least.");
        DUE.is("none", new LampOfTheSilent().timber(1), 0);
        DUE.is("3 in each", allProps(3).timber(1), 0);
        DUE.is("CELL 19 alone", mine("b191;").timber(1), 19);
        DUE.is("CELL 1 alone", mine("b011;").timber(1), 1);
        DUE.is("8 and 19 alike", mine("b072;b083;b193;").timber(1), 8);
        DUE.is("CELL 0 alone", mine("b002;b011;b191;").timber(1), 0);
    }

    private static void free() {
        DUE.by("II", "FREE: CELLS (bits) without BEAMS.");
        DUE.is("all", new LampOfTheSilent().timber(2), 1048575);
        DUE.is("none", allProps(1).timber(2), 0);
        DUE.is("all but CELL 0", mine("b001;").timber(2), 1048574);
        DUE.is("all but CELL 19", mine("b193;").timber(2), 524287);
        LampOfTheSilent x = allProps(2);
        x.props(0, 0);
        DUE.is("CELL 0 alone", x.timber(2), 1);
        x.props(0, 1);
        x.props(19, 0);
        DUE.is("CELL 19 alone", x.timber(2), 524288);
        DUE.is("timber(3)", x.timber(3), -2);
        DUE.is("timber(-1)", x.timber(-1), -2);
    }

    private static void eager() {
        DUE.by("Promise 26", "EAGER (bits).");
        DUE.is("each second one of four PAIRS", mine("pd0t0;pd0t0;pd0t0;pd0t0;").eager(), 170);
        DUE.by("II", "EAGER: MINERS (bits) who want to SPEAK in the next MINUTE (AT the FACE nobody).");
        DUE.is("nobody there", new LampOfTheSilent().eager(), 0);
        DUE.is("all of four PAIRS", mine("pt0t0;pt0t0;pt0t0;pt0t0;").eager(), 255);
        DUE.is("MINER 0 alone", mine("pt0d0;pd0d0;pd0d0;pd0d0;").eager(), 1);
        DUE.is("MINER 7 alone", mine("pd0d0;pd0d0;pd0d0;pd0t0;").eager(), 128);
        DUE.is("none of them", mine("pd0d0;pd0d0;").eager(), 0);
        DUE.is("AT the FACE", mine("pt0t0;pt0t0;a019;t009;").eager(), 12);
        DUE.is("in CELL 18", mine("pt0t0;a018;").eager(), 3);
        DUE.is("in MINUTE 1", mine("pf0o0;").eager(), 2);
        DUE.is("in MINUTE 2", mine("pf0o0;m01;").eager(), 3);
        DUE.is("in MINUTE 3", mine("pf0o0;m02;").eager(), 0);
    }

    private static void together() {
        DUE.by("II", "TOGETHER: how many twos of PAIRS are AT one CELL.");
        DUE.is("none there", new LampOfTheSilent().first(3), 0);
        DUE.is("one PAIR", mine("pm0m0;").first(3), 0);
        DUE.is("two PAIRS", mine("pm0m0;pm0m0;").first(3), 1);
        DUE.is("three PAIRS", mine("pm0m0;pm0m0;pm0m0;").first(3), 3);
        LampOfTheSilent x = mine("pm0m0;pm0m0;pm0m0;pm0m0;");
        DUE.is("four PAIRS", x.first(3), 6);
        x.stands(3, 19);
        DUE.is("three of four", x.first(3), 3);
        x.stands(0, 19);
        DUE.is("two and two", x.first(3), 2);
        x.stands(1, 1);
        DUE.is("two of four", x.first(3), 1);
        x.stands(0, 18);
        DUE.is("none of four", x.first(3), 0);
    }

    private static void twoNeverOrAlways() {
        DUE.by("II", "each never SPEAKS (0) or always wants to (1)");
        DUE.is("deaf ones have it better by speaking", mine("pd0d0;t002;").two(0, 2), 1);
        DUE.is("talkers have it better by holding their tongue", mine("pt0t0;t002;b013;b023;").two(0, 2), 0);
        DUE.is("shy ones speak at BEAMS", mine("ps0s0;t002;b011;b021;").two(0, 2), 1);
        DUE.is("fathers speak in odd MINUTES", mine("pf0f0;t001;").two(0, 1), 1);
        DUE.is("who always wants to speaks on behind the last word", mine("pm0m0;t001;b033;").two(0, 3), 0);
    }

    private static void twoOfNoMinutes() {
        DUE.by("II", "for the next n MINUTES (0 .. 30)");
        DUE.is("two(0, -1)", mine("pm0m0;t001;").two(0, -1), -4);
        DUE.is("two(0, 0)", mine("pm0m0;t001;").two(0, 0), 0);
        DUE.is("two(0, 1)", mine("pm0m0;t001;").two(0, 1), 1);
        DUE.is("two(0, 0) with TO SAY 0", mine("pt0t0;").two(0, 0), 0);
        DUE.is("two(0, 30) AT the FACE", mine("pt0t0;a019;t001;").two(0, 30), 0);
        DUE.is("two(0, 30) in CELL 18", mine("pt0t0;a018;t001;").two(0, 30), 1);
    }

    private static void twoOfThirty() {
        DUE.by("Promise 27", "TWO; -9. -1; -4; -6 30.");
        LampOfTheSilent x = mine("pm0m0;t019;");
        DUE.is("two(0, 18) with TO SAY 19", x.two(0, 18), 0);
        DUE.is("two(0, 19) with TO SAY 19", x.two(0, 19), 1);
        DUE.is("two(0, 30) with TO SAY 19", x.two(0, 30), 1);
        DUE.is("two(0, 31)", x.two(0, 31), -6);
        x.adds(0, 1);
        DUE.is("two(0, 30) with TO SAY 20 for 19 CELLS", x.two(0, 30), 0);
    }

    private static void twoAndThreeFewer() {
        DUE.by("II", "each wants fewest BRUISES then, 3 fewer, if TO SAY is 0 then");
        DUE.is("a word for 0 BEAMS", mine("pm0m0;t001;").two(0, 1), 1);
        DUE.is("a word for 2 BEAMS", mine("pm0m0;t001;b012;").two(0, 1), 1);
        DUE.is("a word for 3 BEAMS: neither has it better", mine("pm0m0;t001;b013;").two(0, 1), 0);
        DUE.is("two words for 2 BEAMS", mine("pm0m0;t002;b011;b021;").two(0, 2), 1);
        DUE.is("two words for 3 BEAMS", mine("pm0m0;t002;b011;b022;").two(0, 2), 0);
        DUE.is("two words for 4 BEAMS", mine("pm0m0;t002;b013;b021;").two(0, 2), 0);
        DUE.is("2 BEAMS without a word", mine("pm0m0;b012;").two(0, 1), 0);
    }

    private static void twoIfToSayIs0Then() {
        DUE.by("II", "if TO SAY is 0 then");
        DUE.is("one word more than minutes", mine("pm0m0;t003;").two(0, 2), 0);
        DUE.is("as many words as minutes", mine("pm0m0;t003;").two(0, 3), 1);
        DUE.is("one word fewer than minutes", mine("pm0m0;t003;").two(0, 4), 1);
        DUE.is("whatever their KINDS", mine("pd0d0;t003;").two(0, 3), 1);
        DUE.is("the BEAMS behind the last word BRUISE, too", mine("pm0m0;t001;b023;").two(0, 2), 0);
    }

    private static void twoAlwaysSettle() {
        DUE.by("II", "the first pair (10 the first's and the other's) by which neither has it better by another one alone; -9.");
        for (int beams = 0; beams <= 3; beams++) {
            for (int words = 0; words <= 4; words++) {
                LampOfTheSilent x = mine("pt0s0;b02" + beams + ";");
                x.adds(0, words);
                for (int n = 0; n <= 30; n += 3) {
                    boolean saysIt = words > 0 && n >= words && (n < 2 || beams < 3);
                    DUE.is("two(0, " + n + ") with TO SAY " + words + ", BEAMS " + beams, x.two(0, n), saysIt ? 1 : 0);
                }
            }
        }
    }

    /** Two words to say; 4 BEAMS on the way, the first MINER with so many BRUISES. */
    private static LampOfTheSilent twoWords(int bruises) {
        LampOfTheSilent x = Due.bruised(bruises, 3);
        x.props(2, 1);
        x.adds(0, 2);
        return x;
    }

    private static void twoNear99() {
        DUE.by("II", "each wants fewest BRUISES then");
        // Who has 98 can have but 1 more, so that 4 BEAMS cost him less than the 3 that he wants fewer.
        LampOfTheSilent x = twoWords(98);
        DUE.is("the first has 98", x.two(0, 2), 10);
        x.swaps(0, 1);
        DUE.is("the second has 98", x.two(0, 2), 1);
        DUE.is("the first has 97: 2 more", twoWords(97).two(0, 2), 10);
        DUE.is("the first has 96: 3 more, and he has it no better", twoWords(96).two(0, 2), 0);
        DUE.is("the first has 95: 4 more", twoWords(95).two(0, 2), 0);
        LampOfTheSilent last = Due.tell(twoWords(98), "pd0d0;pd0d0;pd0d0;t302;t102;x07;");
        last.mine();
        DUE.is("in PAIR 3 the second has 98", last.two(3, 2), 1);
        DUE.is("in PAIR 1 all are sound", last.two(1, 2), 0);
        last.swaps(7, 6);
        DUE.is("in PAIR 3 the first has 98", last.two(3, 2), 10);
        last.swaps(6, 2);
        DUE.is("in PAIR 1 the first has 98", last.two(1, 2), 10);
        LampOfTheSilent y = Due.bruised(98, 3);
        y.adds(0, 1);
        DUE.is("3 BEAMS: the second has it no worse by speaking", y.two(0, 1), 1);
    }

    private static void fraction(LampOfTheSilent x, int n, int t, int v, long above, long below) {
        String call = "cough(0, " + n + ", " + t + ", " + v;
        DUE.is(call + ", 0)", x.cough(0, n, t, v, 0), above);
        DUE.is(call + ", 1)", x.cough(0, n, t, v, 1), below);
    }

    private static void coughOfNoMinutes() {
        DUE.by("II", "COUGH: in each of n MINUTES (0 .. 7)");
        fraction(mine("pd0d0;"), 0, 2, 0, 1, 1);
        fraction(mine("pd0d0;"), 0, 2, 1, 0, 1);
        fraction(mine("pd0d0;a018;"), 0, 20, 18, 1, 1);
        fraction(mine("pd0d0;a018;"), 0, 20, 19, 0, 1);
        fraction(mine("pd0d0;a019;"), 0, 20, 19, 1, 1);
        fraction(mine("pd0d0;a019;"), 7, 20, 19, 1, 1);
    }

    private static void coughOfSeven() {
        DUE.by("Promise 28", "COUGH, part 0 above, 1 below the line.");
        DUE.is("part 0", mine("pd0d0;").cough(0, 1, 20, 2, 0), 19);
        DUE.is("part 1", mine("pd0d0;").cough(0, 1, 20, 2, 1), 20);
        DUE.is("part 2", mine("pd0d0;").cough(0, 1, 20, 2, 2), 4000000000000000002L);
        DUE.is("part -1", mine("pd0d0;").cough(0, 1, 20, 2, -1), 4000000000000000002L);
        DUE.by("Promise 28", "-6 (7; 20; 19)");
        // 3 CELLS where nobody coughs, 1 where the second does: 7 minutes reach the FACE with one cough at the most.
        fraction(mine("pd0d0;"), 7, 2, 19, 1, 16);
        fraction(mine("pd0d0;"), 7, 20, 19, 611596453, 640000000);
        fraction(mine("pd0d0;"), 7, 2, 7, 1, 1);
        fraction(mine("pd0d0;"), 7, 2, 8, 127, 128);
        fraction(mine("pd0d0;"), 7, 20, 8, 1279999999, 1280000000);
        fraction(mine("pd0d0;"), 6, 2, 19, 0, 1);
        DUE.is("n is 8", mine("pd0d0;").cough(0, 8, 2, 19, 0), 4000000000000000006L);
        DUE.is("n is -1", mine("pd0d0;").cough(0, -1, 2, 19, 0), 4000000000000000004L);
    }

    private static void coughOdds() {
        DUE.by("II", "by itself, with odds 1 in t (2 .. 20)");
        fraction(mine("pd0d0;"), 1, 2, 2, 1, 2);
        fraction(mine("pd0d0;"), 1, 3, 2, 2, 3);
        fraction(mine("pd0d0;"), 1, 19, 2, 18, 19);
        fraction(mine("pd0d0;"), 1, 20, 2, 19, 20);
        fraction(mine("pd0d0;"), 2, 3, 4, 8, 9);
        fraction(mine("pd0d0;"), 2, 3, 6, 4, 9);
        DUE.is("t is 1", mine("pd0d0;").cough(0, 1, 1, 2, 0), 4000000000000000004L);
        DUE.is("t is 21", mine("pd0d0;").cough(0, 1, 21, 2, 0), 4000000000000000006L);
    }

    private static void coughCells() {
        DUE.by("II", "how likely a PAIR is AT CELL v (0 .. 19) or farther behind these: a fraction.");
        fraction(mine("pd0d0;"), 1, 4, 0, 1, 1);
        fraction(mine("pd0d0;"), 1, 4, 1, 1, 1);
        fraction(mine("pd0d0;"), 1, 4, 3, 3, 4);
        fraction(mine("pd0d0;"), 1, 4, 4, 0, 1);
        fraction(mine("pd0d0;a016;"), 1, 4, 19, 3, 4);
        fraction(mine("pd0d0;a018;"), 1, 4, 19, 1, 1);
        fraction(mine("pd0d0;"), 7, 2, 0, 1, 1);
        DUE.is("v is 20", mine("pd0d0;").cough(0, 1, 4, 20, 0), 4000000000000000006L);
        DUE.is("v is -1", mine("pd0d0;").cough(0, 1, 4, -1, 0), 4000000000000000004L);
    }

    private static void coughOfTheSecond() {
        DUE.by("II", "the second of each PAIR wants to SPEAK, the first not");
        // With 1 TO SAY they go 1 CELL in the first minute, whoever speaks, and then as nobody coughs or one does.
        fraction(mine("pm0m0;t001;"), 1, 5, 2, 0, 1);
        fraction(mine("pm0m0;t001;"), 2, 5, 3, 4, 5);
        // The shy one keeps his word at BEAMS; a cough says it for him.
        fraction(mine("ps0d0;t001;b011;"), 1, 5, 2, 4, 5);
        fraction(mine("ps0d0;t001;b011;"), 2, 5, 3, 24, 25);
        // A father and MINUTES: silent with 1 CELL in the odd ones, so that he always goes 1.
        fraction(mine("pf0d0;"), 7, 2, 7, 1, 1);
        fraction(mine("pf0d0;"), 7, 2, 8, 0, 1);
        fraction(mine("pd0f0;"), 1, 2, 3, 1, 2);
        fraction(mine("pd0f0;"), 2, 2, 4, 1, 2);
        fraction(mine("pd0f0;"), 2, 2, 5, 0, 1);
        fraction(mine("m01;pd0f0;"), 1, 2, 2, 0, 1);
        fraction(mine("m01;pd0f0;"), 2, 2, 4, 1, 2);
        // An overseer of 0 is silent in the MINUTES 3 and 6.
        fraction(mine("po0d0;"), 2, 2, 3, 0, 1);
        fraction(mine("po0d0;"), 3, 2, 4, 1, 2);
        fraction(mine("po0d0;m02;a000;"), 1, 2, 2, 1, 2);
        fraction(mine("po0d0;m02;a000;"), 4, 2, 6, 1, 4);
        DUE.is("nobody is hurt", mine("pd0d0;b013;").count(3), 0);
    }

    private static void meanOfNobody() {
        DUE.by("II", "MEAN: of BRUISES: a fraction (0 by 1 of nobody).");
        DUE.is("mean(0)", new LampOfTheSilent().mean(0), 0);
        DUE.is("mean(1)", new LampOfTheSilent().mean(1), 1);
        DUE.is("mean(2)", new LampOfTheSilent().mean(2), 4000000000000000002L);
        DUE.is("mean(-1)", new LampOfTheSilent().mean(-1), 4000000000000000002L);
    }

    private static void mean(LampOfTheSilent x, long above, long below) {
        DUE.is("mean(0) of count(3) " + x.count(3), x.mean(0), above);
        DUE.is("mean(1) of count(3) " + x.count(3), x.mean(1), below);
    }

    private static void meanInLeastTerms() {
        DUE.by("THE IMAGE", "Fractions are told in least terms; 0 as 0 by 1.");
        mean(mine("pm0m0;pm0m0;"), 0, 1);
        mean(mine("pt0d0;b011;m01;"), 1, 2);
        mean(mine("pt0d0;b012;m01;"), 1, 1);
        mean(mine("pt0d0;b013;m01;"), 3, 2);
        mean(mine("pt0d0;pd0d0;pd0d0;pd0d0;b011;m01;"), 1, 8);
        mean(mine("pt0d0;pd0d0;pd0d0;b013;m01;"), 1, 2);
        mean(mine("pt0d0;pt0d0;pt0d0;b013;m01;"), 3, 2);
        mean(Due.bruised(99, 0), 99, 2);
        LampOfTheSilent both = Due.bruised(99, 0);
        both.swaps(0, 1);
        both.turn(0, 2, 0);
        Due.bruise(both, 99, 0);
        mean(both, 99, 1);
        DUE.is("0 by 1 of odds that never come", mine("pd0d0;").cough(0, 7, 20, 19, 1), 640000000);
        fraction(mine("pt0d0;"), 7, 20, 19, 0, 1);
    }

    private static void whatIsOfNoRow() {
        DUE.by("II", "KINDS (bits) of him by which all of it is so; FIGURES (bits 0 .. 9).");
        LampOfTheSilent x = mine("pt0d0;a007;");
        DUE.is("KINDS by no ROW", x.whatIs(0, 0), 63);
        DUE.is("FIGURES by no ROW", x.whatIs(0, 1), 1023);
        Due.rowed(x, 7);
        DUE.is("KINDS by where they are now", x.whatIs(1, 0), 63);
        DUE.is("FIGURES by where they are now", x.whatIs(1, 1), 1023);
        Due.rowed(x, 6);
        DUE.is("KINDS by where they are not", x.whatIs(1, 0), 0);
        DUE.is("FIGURES by where they are not", x.whatIs(1, 1), 0);
    }

    private static void whatIsOfSixteen() {
        DUE.by("II", "A ROW of numbers (0 .. 99; 16 at most)");
        // A talker goes 1 CELL a minute; so does a father, and an overseer till the minute that he is silent in.
        LampOfTheSilent x = Due.rowed(mine("pt9d0;"), 0, 1, 2, 3, 4, 5, 6, 7, 8, 9, 10, 11, 12, 13, 14, 15);
        DUE.is("KINDS by 16 numbers", x.whatIs(0, 0), 20);
        DUE.is("FIGURES by 16 numbers", x.whatIs(0, 1), 1023);
        DUE.is("a 17th number", x.row(16), -6);
        DUE.is("count(6)", x.count(6), 16);
        LampOfTheSilent y = Due.rowed(mine("pt9d0;"), 0, 1, 2, 3, 4, 5, 6, 7, 8, 9, 10, 11, 12, 13, 14, 16);
        DUE.is("KINDS by the last of 16 that is not so", y.whatIs(0, 0), 0);
    }

    private static void whatIsOfNoCell() {
        DUE.by("II", "a ROW tells where the PAIR of a MINER is behind 0, 1, .. MINUTES");
        LampOfTheSilent x = mine("pd0d0;a019;");
        DUE.is("no CELL 99", Due.rowed(x, 99).whatIs(0, 0), 0);
        DUE.is("no CELL 20", Due.rowed(x, 19, 20).whatIs(0, 0), 0);
        DUE.is("the FACE and on", Due.rowed(x, 19, 19, 19).whatIs(0, 0), 63);
        DUE.is("the FACE from 17", Due.rowed(mine("pd0d0;a017;"), 17, 19).whatIs(0, 0), 11);
        DUE.is("the second PAIR", Due.rowed(mine("pd0d0;pd0d0;a105;"), 5, 8).whatIs(3, 0), 27);
        DUE.is("the first PAIR", Due.rowed(mine("pd0d0;pd0d0;a105;"), 5, 8).whatIs(1, 0), 0);
        LampOfTheSilent four = mine("pd0d0;pd0d0;pd0d0;po0d0;a101;a202;a303;");
        DUE.is("MINER 2 is of PAIR 1", Due.rowed(four, 1, 4).whatIs(2, 0), 8);
        DUE.is("MINER 5 is of PAIR 2", Due.rowed(four, 2, 5).whatIs(5, 0), 27);
        DUE.is("MINER 7 is of PAIR 3", Due.rowed(four, 3, 4).whatIs(7, 0), 63);
        DUE.is("MINER 6 is of PAIR 3", Due.rowed(four, 3, 4, 5, 7).whatIs(6, 1), 1);
    }

    private static void whatIsBits() {
        DUE.by("Promise 30", "WHAT HE IS by the ROW (it stays): KINDS (what 0, bits), FIGURES (1). -1; -2.");
        LampOfTheSilent x = mine("pd0d0;");
        DUE.is("a deaf one alone", Due.rowed(x, 0, 3).whatIs(0, 0), 8);
        DUE.is("m or s alone", Due.rowed(x, 0, 2).whatIs(0, 0), 3);
        DUE.is("t, f or o", Due.rowed(x, 0, 1).whatIs(0, 0), 52);
        DUE.is("nobody goes 4", Due.rowed(x, 0, 4).whatIs(0, 0), 0);
        DUE.is("the ROW stays", x.count(6), 2);
        LampOfTheSilent y = mine("po5d0;");
        DUE.is("FIGURE 0 alone", Due.rowed(y, 0, 1, 2, 4).whatIs(0, 1), 1);
        DUE.is("all but FIGURE 0", Due.rowed(y, 0, 1, 2, 3).whatIs(0, 1), 1022);
        DUE.is("FIGURE 9 alone", Due.rowed(y, 0, 1, 2, 3, 4, 5, 6, 7, 8, 9, 10, 11, 13).whatIs(0, 1), 512);
        DUE.is("none", Due.rowed(y, 0, 1, 2, 3, 4, 5, 6, 7, 8, 9, 10, 11, 12).whatIs(0, 1), 0);
        DUE.is("his FIGURE 5 with other KINDS", Due.rowed(y, 0, 1, 2, 3, 4, 5, 6, 7, 9).whatIs(0, 0), 32);
        DUE.is("the FIGURE stays", y.miner(0, 1), 5);
        DUE.is("the ROW stays", y.count(6), 9);
    }

    private static void rowAtItsEnds() {
        DUE.by("Promise 31", "A number more of the ROW (0 .. 99): how many. -4; -6 (99; 16, too).");
        LampOfTheSilent x = new LampOfTheSilent();
        DUE.is("row(-1)", x.row(-1), -4);
        DUE.is("row(100)", x.row(100), -6);
        DUE.is("row(0)", x.row(0), 1);
        DUE.is("row(99)", x.row(99), 2);
        for (int n = 3; n <= 16; n++) {
            DUE.is("row(1), number " + n, x.row(1), n);
        }
        DUE.is("row(1), number 17", x.row(1), -6);
        DUE.is("row(-1), number 17", x.row(-1), -4);
        DUE.is("count(6)", x.count(6), 16);
        x.clear();
        DUE.is("row(1) anew", x.row(1), 1);
    }

    private static void judged() {
        DUE.by("II", "JUDGED: BEAMS in CELLS 0, 1, ..: the first that is not so; -9.");
        LampOfTheSilent x = mine("b003;b151;");
        DUE.is("no ROW", x.judge(), -9);
        DUE.is("CELL 0 is so", Due.rowed(x, 3).judge(), -9);
        DUE.is("CELL 0 is not so", Due.rowed(x, 2).judge(), 0);
        DUE.is("16 CELLS are so", Due.rowed(x, 3, 0, 0, 0, 0, 0, 0, 0, 0, 0, 0, 0, 0, 0, 0, 1).judge(), -9);
        DUE.is("the last of 16 is not so", Due.rowed(x, 3, 0, 0, 0, 0, 0, 0, 0, 0, 0, 0, 0, 0, 0, 0, 0).judge(), 15);
        DUE.is("the first of several", Due.rowed(x, 3, 1, 1, 0).judge(), 1);
        DUE.is("99 BEAMS are nowhere", Due.rowed(x, 3, 99).judge(), 1);
        DUE.is("4 BEAMS are nowhere", Due.rowed(x, 4).judge(), 0);
    }

    private static void judgedIsNoMore() {
        DUE.by("Promise 32", "JUDGED; -9 (whichever it answers, the ROW has none then).");
        LampOfTheSilent x = Due.rowed(mine("b003;"), 3, 0);
        DUE.is("judge() of what is so", x.judge(), -9);
        DUE.is("count(6)", x.count(6), 0);
        Due.rowed(x, 0, 0);
        DUE.is("judge() of what is not so", x.judge(), 0);
        DUE.is("count(6)", x.count(6), 0);
        DUE.is("judge() of none", x.judge(), -9);
        DUE.is("row(5) anew", x.row(5), 1);
    }

    private static void clear() {
        DUE.by("Promise 33", "The ROW has none then: how many it had.");
        LampOfTheSilent x = new LampOfTheSilent();
        DUE.is("clear() of none", x.clear(), 0);
        x.row(9);
        DUE.is("clear() of one", x.clear(), 1);
        DUE.is("clear() once more", x.clear(), 0);
        for (int n = 0; n < 16; n++) {
            x.row(n);
        }
        DUE.is("clear() of 16", x.clear(), 16);
        DUE.is("count(6)", x.count(6), 0);
        DUE.is("row(9) anew", x.row(9), 1);
    }

    private static void lotsAtTheirEnds() {
        DUE.by("II", "LOTS with a seed z: n shifts (1 .. 20), each from now");
        LampOfTheSilent x = mine("pd0d0;");
        DUE.is("lots(0, 5, 0)", x.lots(0, 5, 0), -4);
        DUE.is("lots(1, 5, 0)", x.lots(1, 5, 0), 1);
        DUE.is("lots(20, 5, 0)", x.lots(20, 5, 0), 20);
        DUE.is("lots(21, 5, 0)", x.lots(21, 5, 0), -6);
    }

    /** One shift of one PAIR: whether it is AT the FACE, and its BRUISES. */
    private static void shift(String mine, int z, int faced, int bruises) {
        LampOfTheSilent x = mine(mine, BEAMS_1, BEAMS_1_ON);
        DUE.is("lots(1, " + z + ", 0) of " + mine, x.lots(1, z, 0), faced);
        DUE.is("lots(1, " + z + ", 1) of " + mine, x.lots(1, z, 1), bruises);
    }

    private static void lotsCells() {
        DUE.by("II", "each PAIR, by numbers, AT a CELL by a DRAW below 20");
        // The seeds draw the CELLS 0, 8, 9, 18, 19; a talker walks into each beam on his 10 CELLS.
        shift("pt0d0;", -50, 0, 10);
        shift("pt0d0;", 71, 0, 10);
        shift("pt0d0;", -7, 1, 10);
        shift("pt0d0;", 134, 1, 1);
        shift("pt0d0;", -31, 1, 0);
        DUE.by("II", "then 10 MINUTES");
        shift("pd0d0;", -50, 1, 0);
        shift("pt0d0;a010;", 71, 0, 10);
        shift("pt0d0;a010;", -7, 1, 10);
    }

    private static void lotsToSay() {
        DUE.by("II", "then TO SAY a DRAW below 12;");
        // From CELL 0 with TO SAY 0, 1, 2, 10, 11: each word is a minute of 1 CELL, each other minute goes 2.
        shift("pm0d0;", -50, 1, 0);
        shift("pm0d0;", -206, 1, 1);
        shift("pm0d0;", 57, 0, 2);
        shift("pm0d0;", -138, 0, 10);
        shift("pm0d0;", 28, 0, 10);
        // Whatever they had to say before.
        shift("pm0d0;t099;", -50, 1, 0);
    }

    private static void lotsOfPairsByNumbers() {
        DUE.by("II", "each PAIR, by numbers");
        // The seed 0 draws CELL 3, TO SAY 9, then CELL 6, TO SAY 11; the seed 7 draws 17, 5, then 16, 4.
        LampOfTheSilent x = mine("pd0d0;pt0d0;b043;b061;b072;");
        DUE.is("PAIR 1 from 6 on", x.lots(1, 0, 1), 2);
        LampOfTheSilent y = mine("pt0d0;pd0d0;b043;b061;b072;");
        DUE.is("PAIR 0 from 3 on", y.lots(1, 0, 1), 6);
        LampOfTheSilent z = mine("pd0d0;pm0d0;b171;b182;b193;");
        DUE.is("PAIR 1 from 16 on", z.lots(1, 7, 1), 6);
        DUE.is("both AT the FACE", z.lots(1, 7, 0), 2);
    }

    private static void lotsEachFromNow() {
        DUE.by("II", "AT the FACE of all together; all BRUISES more.");
        // Behind two draws the seed 0 has become 1196435762.
        LampOfTheSilent x = mine("pt0d0;", BEAMS_1, BEAMS_1_ON);
        for (int what = 0; what < 2; what++) {
            int both = x.lots(1, 0, what) + x.lots(1, 1196435762, what);
            DUE.is("lots(2, 0, " + what + ")", x.lots(2, 0, what), both);
        }
        x.minutes(5);
        DUE.is("BRUISES that were there are not more", x.lots(1, 0, 1), 10);
        DUE.is("they stay", x.count(3), 5);
        // From CELL 3 a father speaks in even MINUTES: on the way from 6 to 7, or from 3 to 4.
        DUE.is("from an even MINUTE", mine("pd0f0;b041;b072;").lots(1, 0, 1), 2);
        DUE.is("from an odd MINUTE", mine("m01;pd0f0;b041;b072;").lots(1, 0, 1), 1);
    }

    private static void lotsPassOver() {
        DUE.by("II", "z becomes z times 1664525 and 1013904223 (an int); (z without its sign's bit by 256, cut) modulo m.");
        // 2147483647: z becomes -1135243950, -1340617591: CELL 1, TO SAY 8.
        DUE.is("lots(1, 2147483647, 1), CELL 1 and TO SAY 8", mine("pm0d0;b021;b092;b103;").lots(1, GREATEST, 1), 3);
        DUE.is("lots(1, 2147483647, 0)", mine("pm0d0;").lots(1, GREATEST, 0), 0);
        // -2147483648: z becomes -1133579425, -951047886: CELL 3, TO SAY 9.
        DUE.is("lots(1, -2147483648, 1), CELL 3 and TO SAY 9", mine("pm0d0;b041;b122;b133;").lots(1, LEAST, 1), 3);
        // -1: z becomes 1012239698, 806866057: CELL 1, TO SAY 8.
        DUE.is("lots(1, -1, 1), CELL 1 and TO SAY 8", mine("pm0d0;b021;b092;b103;").lots(1, -1, 1), 3);
        // 3: z becomes 1018897798, -1929822419: CELL 9, TO SAY 3.
        DUE.is("lots(1, 3, 1), CELL 9 and TO SAY 3", mine("pm0d0;b101;b122;b133;").lots(1, 3, 1), 3);
        // 1000000000: z becomes -1446562465, 1897366322: CELL 13, TO SAY 3.
        DUE.is("lots(1, 1000000000, 1), CELL 13 and TO SAY 3", mine("pm0d0;b141;b162;b173;").lots(1, 1000000000, 1), 3);
        DUE.by("II", "A DRAW below m: z becomes z times 1664525 and 1013904223 (an int);");
        // Of 20 shifts: a talker is AT the FACE from CELL 9 on, and walks into 1 beam in each CELL, 10 at most.
        int[][] due = {{0, 12, 141}, {1, 12, 155}, {-1, 11, 140}, {GREATEST, 11, 140}, {LEAST, 12, 141},
            {123456789, 10, 144}};
        for (int[] one : due) {
            LampOfTheSilent x = mine("pt0d0;", BEAMS_1, BEAMS_1_ON);
            DUE.is("lots(20, " + one[0] + ", 0)", x.lots(20, one[0], 0), one[1]);
            DUE.is("lots(20, " + one[0] + ", 1)", x.lots(20, one[0], 1), one[2]);
        }
    }

    private static void lotsOfNobody() {
        DUE.by("Promise 34", "LOTS: AT the FACE (what 0), BRUISES (1).");
        LampOfTheSilent none = mine("b013;");
        DUE.is("lots(20, 7, 0) of nobody", none.lots(20, 7, 0), 0);
        DUE.is("lots(20, 7, 1) of nobody", none.lots(20, 7, 1), 0);
        LampOfTheSilent four = mine("pd0d0;pd0d0;pd0d0;pd0d0;");
        DUE.is("lots(20, 7, 0) of four PAIRS", four.lots(20, 7, 0), 80);
        DUE.is("lots(1, 7, 0) of four PAIRS", four.lots(1, 7, 0), 4);
    }

    private static void lotsNear99() {
        DUE.by("II", "all BRUISES more.");
        LampOfTheSilent x = Due.bruised(98, 3);
        x.props(4, 3);
        x.props(5, 3);
        DUE.is("98 have 1 more at most", x.lots(1, 0, 1), 1);
        LampOfTheSilent y = Due.bruised(99, 3);
        y.props(4, 3);
        DUE.is("99 have none more", y.lots(1, 0, 1), 0);
        DUE.is("each shift from now", x.lots(2, 0, 1), 1 + x.lots(1, 1196435762, 1));
    }

    private static void nothingIsChanged() {
        DUE.by("II", "each from now");
        LampOfTheSilent x = mine("pm1s2;pf3o4;t009;t103;b023;b051;m02;");
        LampOfTheSilent twin = mine("pm1s2;pf3o4;t009;t103;b023;b051;m02;");
        x.lots(20, 5, 0);
        x.eager();
        x.mean(0);
        for (int what = 0; what < 4; what++) {
            x.first(what);
        }
        for (int p = 0; p < 2; p++) {
            x.hum(p, 12);
            x.two(p, 30);
            x.cough(p, 7, 20, 19, 0);
        }
        for (int m = 0; m < 4; m++) {
            x.whatIs(m, 0);
            x.whatIs(m, 1);
        }
        DUE.is("all is as it was", Seen.areAlike(x, twin) ? 1 : 0, 1);
    }
}
