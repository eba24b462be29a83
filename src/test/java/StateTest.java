/** Promises 4 to 12, 24 to 26, 29, 31 to 33 and 35 to 37: what is now, told by hand. */
public final class StateTest {
    private static final Due DUE = new Due();

    public static void main(String[] args) {
        minersAndTheirKinds();
        whoWouldSpeak();
        beamsAndProps();
        standsAndAdds();
        swapsAndTurn();
        minutesOfEachKind();
        minutesEndAtTheFace();
        minutesEndAt999();
        bruisesEndAt99();
        firstTimberEager();
        mean();
        rowJudgeClear();
        imageAndOn();
        counts();
        DUE.end();
    }

    private static void minersAndTheirKinds() {
        LampOfTheSilent x = Due.mineOf("pm0s1;pt2d3;pf8o9;");
        int[] figures = {0, 1, 2, 3, 8, 9};
        int[] goes = {2, 2, 1, 3, 1, 2};
        for (int m = 0; m < 6; m++) {
            DUE.is("4: miner(" + m + ", 0)", x.miner(m, 0), m);
            DUE.is("4: miner(" + m + ", 1)", x.miner(m, 1), figures[m]);
            DUE.is("4: miner(" + m + ", 2)", x.miner(m, 2), 0);
            DUE.is("4: miner(" + m + ", 3)", x.miner(m, 3), goes[m]);
        }
    }

    private static int speaker(String mine) {
        return Due.mineOf(mine).pair(0, 2);
    }

    private static void whoWouldSpeak() {
        DUE.is("5: m, TO SAY 0", speaker("pm0d0;"), -9);
        DUE.is("5: m, TO SAY 1", speaker("pm0d0;t001;"), 0);
        DUE.is("5: m, beams ahead", speaker("pm0d0;t001;b013;"), 0);
        DUE.is("5: s, TO SAY 0", speaker("ps0d0;"), -9);
        DUE.is("5: s, TO SAY 1", speaker("ps0d0;t001;"), 0);
        DUE.is("5: s, beams ahead", speaker("ps0d0;t001;b011;"), -9);
        DUE.is("5: s, beams where he is and farther on", speaker("ps0d0;t001;b001;b021;"), 0);
        DUE.is("5: t", speaker("pt0d0;"), 0);
        DUE.is("5: t, beams ahead", speaker("pt0d0;b013;"), 0);
        DUE.is("5: d", speaker("pd0d0;t099;"), -9);
        DUE.is("5: f, the next minute 1", speaker("pf0d0;t099;"), -9);
        DUE.is("5: f, the next minute 2", speaker("m01;pf0d0;"), 0);
        DUE.is("5: o0, the next minute 1", speaker("po0d0;"), 0);
        DUE.is("5: o0, the next minute 3", speaker("m02;po0d0;"), -9);
        DUE.is("5: o0, the next minute 4", speaker("m03;po0d0;"), 0);
        DUE.is("5: o9, the next minute 12", speaker("m11;po9d0;"), -9);
        DUE.is("5: o9, the next minute 9", speaker("m08;po9d0;"), 0);
        DUE.is("5: the second speaks", speaker("pd0t0;"), 1);
        DUE.is("5: both want to", speaker("pt0t0;"), 0);
        DUE.is("5: at the face", speaker("pt0t0;a019;"), -9);
        DUE.is("5: ahead of the face with beams", speaker("ps0t0;a018;t005;b191;"), 1);
        LampOfTheSilent x = Due.mineOf("pt0t0;pm0m0;a112;t134;");
        DUE.is("5: pair(1, 0)", x.pair(1, 0), 12);
        DUE.is("5: pair(1, 1)", x.pair(1, 1), 34);
        DUE.is("5: pair(0, 0)", x.pair(0, 0), 0);
        DUE.is("5: pair(0, 1)", x.pair(0, 1), 0);
    }

    private static void beamsAndProps() {
        LampOfTheSilent x = new LampOfTheSilent();
        DUE.is("7: props(0, 3)", x.props(0, 3), 0);
        DUE.is("7: props(0, 1)", x.props(0, 1), 3);
        DUE.is("7: props(19, 2)", x.props(19, 2), 0);
        DUE.is("6: beams(0)", x.beams(0), 1);
        DUE.is("6: beams(19)", x.beams(19), 2);
        DUE.is("6: beams(1)", x.beams(1), 0);
        DUE.is("7: props(0, 0)", x.props(0, 0), 1);
        DUE.is("6: beams(0), taken away", x.beams(0), 0);
    }

    private static void standsAndAdds() {
        LampOfTheSilent x = Due.mineOf("pm0m0;pm0m0;");
        DUE.is("8: stands(1, 19)", x.stands(1, 19), 0);
        DUE.is("8: stands(1, 4)", x.stands(1, 4), 19);
        DUE.is("8: pair(1, 0)", x.pair(1, 0), 4);
        DUE.is("8: pair(0, 0)", x.pair(0, 0), 0);
        DUE.is("9: adds(1, 0)", x.adds(1, 0), 0);
        DUE.is("9: adds(1, 50)", x.adds(1, 50), 50);
        DUE.is("9: adds(1, 49)", x.adds(1, 49), 99);
        DUE.is("9: adds(1, 1)", x.adds(1, 1), 99);
        DUE.is("9: pair(0, 1)", x.pair(0, 1), 0);
        DUE.is("9: adds(0, 99)", x.adds(0, 99), 99);
        DUE.is("9: adds(0, 99) to 99", x.adds(0, 99), 99);
    }

    private static void swapsAndTurn() {
        LampOfTheSilent x = Due.mineOf("pt1d2;ps3f4;b012;m01;");
        DUE.is("10: swaps(0, 3)", x.swaps(0, 3), 4);
        DUE.is("10: KIND of 3", x.miner(3, 0), 2);
        DUE.is("10: FIGURE of 3", x.miner(3, 1), 1);
        DUE.is("10: BRUISES of 3", x.miner(3, 2), 2);
        DUE.is("10: FIGURE of 0", x.miner(0, 1), 4);
        DUE.is("10: BRUISES of 0", x.miner(0, 2), 0);
        DUE.is("10: where pair 0 is", x.pair(0, 0), 1);
        DUE.is("10: where pair 1 is", x.pair(1, 0), 2);
        DUE.is("10: swaps(1, 0) in one pair", x.swaps(1, 0), 4);
        DUE.is("10: KIND of 0", x.miner(0, 0), 3);
        DUE.is("11: turn(3, 5, 9)", x.turn(3, 5, 9), 21);
        DUE.is("11: turn(3, 0, 0)", x.turn(3, 0, 0), 59);
        DUE.is("11: KIND of 3", x.miner(3, 0), 0);
        DUE.is("11: FIGURE of 3", x.miner(3, 1), 0);
        DUE.is("11: BRUISES of 3 stay", x.miner(3, 2), 2);
    }

    private static void minutesOfEachKind() {
        LampOfTheSilent x = Due.mineOf("pd0t0;pm0s0;pt0m0;pf0d0;t102;t201;b021;b033;");
        DUE.is("12: minutes(1)", x.minutes(1), 0);
        int[] behindOne = {1, 1, 1, 1};
        for (int p = 0; p < 4; p++) {
            DUE.is("12: CELL of " + p + " behind one", x.pair(p, 0), behindOne[p]);
        }
        DUE.is("12: TO SAY of 1 behind one", x.pair(1, 1), 1);
        DUE.is("12: TO SAY of 2 behind one", x.pair(2, 1), 0);
        DUE.is("12: minutes(2)", x.minutes(2), 0);
        // Pair 1 says its last word in the second minute, goes 2 in the third.
        int[] behindThree = {3, 4, 3, 3};
        int[] bruises = {0, 4, 1, 0, 4, 0, 1, 0};
        for (int p = 0; p < 4; p++) {
            DUE.is("12: CELL of " + p + " behind three", x.pair(p, 0), behindThree[p]);
        }
        for (int m = 0; m < 8; m++) {
            DUE.is("12: BRUISES of " + m, x.miner(m, 2), bruises[m]);
        }
        DUE.is("12: TO SAY of 0 is not below 0", x.pair(0, 1), 0);
    }

    private static void minutesEndAtTheFace() {
        LampOfTheSilent x = Due.mineOf("pd0d0;pt0d0;pm0m0;a219;t205;b193;");
        DUE.is("12: minutes(7)", x.minutes(7), 2);
        DUE.is("12: CELL of 0", x.pair(0, 0), 19);
        DUE.is("12: at the face nobody is hurt", x.miner(4, 2), 0);
        DUE.is("12: at the face nothing is said", x.pair(2, 1), 5);
        DUE.is("12: minutes(12)", x.minutes(12), 3);
        DUE.is("12: the beams of the face", x.miner(2, 2), 3);
        DUE.is("12: minutes(60)", x.minutes(60), 3);
        DUE.is("12: MINUTE", x.count(1), 79);
    }

    private static void minutesEndAt999() {
        LampOfTheSilent x = Due.mineOf("m60;".repeat(16));
        DUE.is("12: minutes(40) above 999", x.minutes(40), -6);
        DUE.is("12: minutes(38)", x.minutes(38), 0);
        DUE.is("12: minutes(2) above 999", x.minutes(2), -6);
        DUE.is("12: MINUTE", x.count(1), 998);
        DUE.is("12: minutes(1)", x.minutes(1), 0);
        DUE.is("12: minutes(1) above 999", x.minutes(1), -6);
        DUE.is("12: minutes(0) at 999", x.minutes(0), -4);
        DUE.is("12: count(16)", x.count(16), 3);
        Due.tell(x, "pf0d0;").mine();
        DUE.is("12: in thought it may pass", x.pairThen(0, 60, 0), 19);
        DUE.is("12: the minute 1000 is even", x.pair(0, 2), 0);
    }

    private static void bruisesEndAt99() {
        LampOfTheSilent x = Due.mineOf("pt0d0;");
        for (int c = 0; c < 20; c++) {
            x.props(c, 3);
        }
        x.minutes(19);
        DUE.is("12: all beams", x.miner(0, 2), 57);
        x.stands(0, 0);
        DUE.is("14: in thought, 98 can not come of threes", x.bruisesThen(0, 13), 96);
        DUE.is("14: in thought", x.bruisesThen(0, 14), 99);
        DUE.is("14: in thought", x.bruisesThen(0, 15), 99);
        DUE.is("22: the beams are more than the bruises", x.bestCell(0, 1), 0);
        x.minutes(19);
        DUE.is("12: 99 at most", x.miner(0, 2), 99);
    }

    private static void firstTimberEager() {
        LampOfTheSilent x = Due.mineOf("pm0t0;pm0t0;ps0f0;pd0o0;a105;a205;b073;b083;b021;b013;");
        DUE.is("24: AHEAD", x.first(0), 1);
        DUE.is("24: BEHIND", x.first(1), 0);
        DUE.is("24: MOST HURT of none hurt", x.first(2), 0);
        DUE.is("24: TOGETHER", x.first(3), 2);
        DUE.is("25: all BEAMS", x.timber(0), 10);
        DUE.is("25: the CELL of most", x.timber(1), 1);
        DUE.is("25: FREE", x.timber(2), 0xfffff & ~(1 << 7 | 1 << 8 | 1 << 2 | 1 << 1));
        DUE.is("26: EAGER in minute 1", x.eager(), 0b10001010);
        x.adds(2, 3);
        x.stands(3, 19);
        DUE.is("26: EAGER with words, and at the face", x.eager(), 0b00011010);
        x.stands(3, 0);
        x.minutes(2);
        DUE.is("24: MOST HURT", x.first(2), 1);
        DUE.is("24: AHEAD then", x.first(0), 1);
        DUE.is("24: TOGETHER then", x.first(3), 2);
        LampOfTheSilent y = Due.mineOf("pd0d0;pt0t0;pt0t0;b012;m01;");
        DUE.is("24: MOST HURT, of several the least", y.first(2), 2);
        DUE.is("24: BEHIND, of several the least", y.first(1), 1);
        DUE.is("24: all at one", Due.mineOf("pm0m0;".repeat(4)).first(3), 6);
        LampOfTheSilent none = new LampOfTheSilent();
        for (int what = 0; what < 3; what++) {
            DUE.is("24: first(" + what + ") of nobody", none.first(what), -9);
        }
        DUE.is("24: first(3) of nobody", none.first(3), 0);
        DUE.is("25: all BEAMS of none", none.timber(0), 0);
        DUE.is("25: the CELL of most of none", none.timber(1), 0);
        DUE.is("25: FREE", none.timber(2), 0xfffff);
        DUE.is("26: EAGER of nobody", none.eager(), 0);
    }

    private static void mean() {
        LampOfTheSilent x = Due.mineOf("pt0d0;pd0t0;b012;b023;");
        DUE.is("29: 0 by 1, above", x.mean(0), 0);
        DUE.is("29: 0 by 1, below", x.mean(1), 1);
        x.minutes(1);
        DUE.is("29: 4 by 4, above", x.mean(0), 1);
        DUE.is("29: 4 by 4, below", x.mean(1), 1);
        x.minutes(1);
        DUE.is("29: 10 by 4, above", x.mean(0), 5);
        DUE.is("29: 10 by 4, below", x.mean(1), 2);
    }

    private static void rowJudgeClear() {
        LampOfTheSilent x = new LampOfTheSilent();
        DUE.is("33: clear() of none", x.clear(), 0);
        DUE.is("31: row(0)", x.row(0), 1);
        DUE.is("31: row(99)", x.row(99), 2);
        DUE.is("33: clear()", x.clear(), 2);
        DUE.is("33: count(6)", x.count(6), 0);
        x.props(1, 2);
        x.props(3, 1);
        Due.rowed(x, 0, 2, 0, 1);
        DUE.is("32: judge() of what is so", x.judge(), -9);
        DUE.is("32: the ROW is gone", x.count(6), 0);
        Due.rowed(x, 0, 2, 1, 3);
        DUE.is("32: judge() of two not so", x.judge(), 2);
        DUE.is("32: the ROW is gone again", x.clear(), 0);
        Due.rowed(x, 1);
        DUE.is("32: judge() at the first cell", x.judge(), 0);
        DUE.is("32: judge() of no row", x.judge(), -9);
        for (int i = 1; i <= 16; i++) {
            DUE.is("31: row(4), number " + i, x.row(4), i);
        }
        DUE.is("31: the 17th", x.row(4), -6);
        DUE.is("31: the 17th, below", x.row(-1), -4);
        DUE.is("31: count(6)", x.count(6), 16);
        DUE.is("33: clear() of a full row", x.clear(), 16);
    }

    private static void imageAndOn() {
        LampOfTheSilent x = new LampOfTheSilent();
        DUE.is("36: on() of none", x.on(), -3);
        Due.tell(x, "pt1m2;b053;a004;t009;m03;").mine();
        DUE.is("35: image()", x.image(), 3);
        Due.tell(x, "b01");
        Due.rowed(x, 7, 7);
        x.minutes(9);
        x.turn(0, 3, 8);
        x.turn(1, 4, 7);
        x.props(5, 0);
        x.adds(0, 20);
        x.miner(8, 0);
        Due.tell(x, "1;pd0d0;").mine();
        Due.tell(x, "m");
        DUE.is("36: on()", x.on(), 3);
        DUE.is("36: PAIRS", x.count(0), 1);
        DUE.is("36: BEAMS", x.beams(5), 3);
        DUE.is("36: BEAMS told behind it", x.beams(1), 0);
        DUE.is("36: CELL", x.pair(0, 0), 7);
        DUE.is("36: TO SAY", x.pair(0, 1), 6);
        DUE.is("36: KIND", x.miner(0, 0), 2);
        DUE.is("36: FIGURE", x.miner(1, 1), 2);
        DUE.is("36: BRUISES", x.miner(0, 2), 3);
        DUE.is("36: the ROW stays", x.count(6), 2);
        DUE.is("36: letters stay", x.count(7), 1);
        DUE.is("36: REFUSALS stay", x.count(11), 1);
        DUE.is("36: REFUSALS stay", x.count(13), 1);
        x.minutes(5);
        DUE.is("36: on() once more", x.on(), 3);
        DUE.is("36: CELL once more", x.pair(0, 0), 7);
        x.minutes(5);
        DUE.is("35: image() anew", x.image(), 8);
        x.minutes(5);
        DUE.is("36: on() from the new one", x.on(), 8);
        LampOfTheSilent y = new LampOfTheSilent();
        DUE.is("35: image() of nothing", y.image(), 0);
        Due.tell(y, "pm0m0;m01;").mine();
        DUE.is("36: on() to nothing", y.on(), 0);
        DUE.is("36: nobody", y.pair(0, 0), -1);
    }

    private static void counts() {
        LampOfTheSilent x = Due.mineOf("pt0d0;pd0t0;pd0d0;t007;t109;b012;b021;a219;m02;");
        Due.rowed(x, 1, 2, 3);
        Due.tell(x, "b0");
        int[] due = {3, 2, 0b100, 6, 12, 3, 3, 2};
        for (int what = 0; what < due.length; what++) {
            DUE.is("37: count(" + what + ")", x.count(what), due[what]);
        }
        int[] others = {-1, 8, 9, 10, 17, 18, Integer.MAX_VALUE, Integer.MIN_VALUE};
        for (int what : others) {
            DUE.is("37: count(" + what + ")", x.count(what), -9);
        }
        for (int what = 11; what <= 16; what++) {
            DUE.is("37: count(" + what + ")", x.count(what), 0);
        }
    }
}
