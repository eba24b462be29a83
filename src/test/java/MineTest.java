/** Promises 1 to 3: a new object, letters, and mines with and without faults. */
public final class MineTest {
    private static final String PAIR = "pm0m0;";
    private static final Due DUE = new Due();

    public static void main(String[] args) {
        newObject();
        letters();
        faultsOfShape();
        faultsOfSense();
        faultsOfSenseByWhatIs();
        faultsLeaveAllAsItWas();
        minesThatCome();
        minutesAndChangesInTheirOrder();
        DUE.end();
    }

    private static void newObject() {
        LampOfTheSilent x = new LampOfTheSilent();
        for (int what = 0; what <= 7; what++) {
            DUE.is("1: count(" + what + ")", x.count(what), 0);
        }
        for (int what = 11; what <= 16; what++) {
            DUE.is("1: count(" + what + ")", x.count(what), 0);
        }
        for (int cell = 0; cell < 20; cell++) {
            DUE.is("1: beams(" + cell + ")", x.beams(cell), 0);
        }
        DUE.is("1: on()", x.on(), -3);
    }

    private static void letters() {
        LampOfTheSilent x = new LampOfTheSilent();
        DUE.is("2: letter(-1)", x.letter(-1), -4);
        DUE.is("2: letter(256)", x.letter(256), -6);
        DUE.is("2: letter(0)", x.letter(0), 1);
        DUE.is("2: letter(255)", x.letter(255), 2);
        for (int i = 3; i <= 96; i++) {
            DUE.is("2: letter(59), number " + i, x.letter(59), i);
        }
        DUE.is("2: the 97th letter", x.letter(59), -6);
        DUE.is("2: the 97th letter, below", x.letter(-1), -4);
        DUE.is("2: count(7)", x.count(7), 96);
        DUE.is("2: mine()", x.mine(), -1000);
        DUE.is("2: count(7) behind a fault", x.count(7), 0);
        DUE.is("2: count(14)", x.count(14), 2);
        DUE.is("2: count(16)", x.count(16), 2);
    }

    private static void fault(String text, int want) {
        LampOfTheSilent x = Due.tell(new LampOfTheSilent(), text);
        DUE.is("3: the mine \"" + text + "\"", x.mine(), want);
        DUE.is("3: letters behind \"" + text + "\"", x.count(7), 0);
        DUE.is("3: pairs behind \"" + text + "\"", x.count(0), 0);
        DUE.is("3: minute behind \"" + text + "\"", x.count(1), 0);
        DUE.is("3: all beams behind \"" + text + "\"", x.count(5), 0);
        for (int what = 11; what <= 16; what++) {
            DUE.is("3: count(" + what + ") behind \"" + text + "\"", x.count(what), 0);
        }
    }

    private static void faultsOfShape() {
        fault("", -1000);
        fault("z", -1000);
        fault(";", -1000);
        fault(" b001;", -1000);
        fault("B001;", -1000);
        fault("b", -1001);
        fault("b0", -1002);
        fault("b00", -1003);
        fault("b001", -1004);
        fault("b001;;", -1005);
        fault("b001;x", -1006);
        fault("b0:1;", -1002);
        fault("b0/1;", -1002);
        fault("b0011;", -1004);
        fault("p", -1001);
        fault("pg0m0;", -1001);
        fault("p0m0m;", -1001);
        fault("pmmm0;", -1002);
        fault("pm00;", -1003);
        fault("pm0mm;", -1004);
        fault("pm0m0", -1005);
        fault("pm0m0m", -1005);
        fault("a00;", -1003);
        fault("a0000;", -1004);
        fault("t00;", -1003);
        fault("t0000;", -1004);
        fault("x0;", -1002);
        fault("x012;", -1003);
        fault("m1;", -1002);
        fault("m011;", -1003);
        fault("m01;;", -1004);
        // A fault of shape goes ahead of a fault of sense, wherever they stand.
        fault("b990;b", -1006);
        fault(PAIR.repeat(15) + "pm0m0m", -1095);
        fault(PAIR.repeat(15) + "m01;b0", -1096);
    }

    private static void faultsOfSense() {
        fault("b200;", -2000);
        fault("b990;", -2000);
        fault("b004;", -2000);
        fault("b193;b194;", -2005);
        fault("a000;", -2000);
        fault("a000;" + PAIR, -2000);
        fault(PAIR + "a100;", -2006);
        fault(PAIR + "a019;a020;", -2011);
        fault("t000;", -2000);
        fault(PAIR + "t099;t199;", -2011);
        fault("x01;", -2000);
        fault(PAIR + "x01;x00;", -2010);
        fault(PAIR + "x02;", -2006);
        fault(PAIR + "x20;", -2006);
        fault(PAIR + "x11;", -2006);
        fault("m00;", -2000);
        fault("m61;", -2000);
        fault("m60;m99;", -2004);
        fault(PAIR.repeat(5), -2024);
        fault(PAIR.repeat(4) + "m60;" + PAIR, -2028);
        fault("m60;".repeat(17), -2064);
        fault("m60;".repeat(16) + "m39;m01;", -2068);
    }

    private static void faultsOfSenseByWhatIs() {
        LampOfTheSilent x = Due.mineOf(PAIR.repeat(3), "m60;".repeat(16));
        DUE.is("3: one pair more, then none", Due.tell(x, PAIR + PAIR).mine(), -2006);
        DUE.is("3: MINUTE above 999", Due.tell(x, "m40;").mine(), -2000);
        DUE.is("3: MINUTE 998", Due.tell(x, "m38;").mine(), 1);
        DUE.is("3: MINUTE 999", Due.tell(x, "b001;m01;").mine(), 2);
        DUE.is("3: MINUTE", x.count(1), 999);
        DUE.is("3: MINUTE above 999", Due.tell(x, "b001;m01;").mine(), -2005);
        DUE.is("3: the fourth PAIR", Due.tell(x, PAIR).mine(), 1);
        DUE.is("3: the fifth PAIR", Due.tell(x, PAIR).mine(), -2000);
        DUE.is("3: the last MINER", Due.tell(x, "x70;").mine(), 1);
        DUE.is("3: no such MINER", Due.tell(x, "x80;").mine(), -2000);
    }

    private static void faultsLeaveAllAsItWas() {
        LampOfTheSilent x = Due.mineOf(PAIR, "b052;");
        DUE.is("3: a fault behind good statements", Due.tell(x, "b051;pt1t1;m09;b004;").mine(), -2015);
        DUE.is("3: beams", x.beams(5), 2);
        DUE.is("3: pairs", x.count(0), 1);
        DUE.is("3: minute", x.count(1), 0);
        DUE.is("3: a fault of shape behind a good statement", Due.tell(x, "b051;x").mine(), -1006);
        DUE.is("3: beams still", x.beams(5), 2);
    }

    private static void minesThatCome() {
        LampOfTheSilent x = new LampOfTheSilent();
        DUE.is("3: two pairs", Due.tell(x, "ps1o9;pd2f3;").mine(), 2);
        DUE.is("3: letters", x.count(7), 0);
        DUE.is("3: pairs", x.count(0), 2);
        int[] kinds = {1, 5, 3, 4};
        int[] figures = {1, 9, 2, 3};
        for (int m = 0; m < 4; m++) {
            DUE.is("3: KIND of " + m, x.miner(m, 0), kinds[m]);
            DUE.is("3: FIGURE of " + m, x.miner(m, 1), figures[m]);
            DUE.is("3: BRUISES of " + m, x.miner(m, 2), 0);
        }
        DUE.is("3: two more", Due.tell(x, "pt0m0;pm0t0;").mine(), 2);
        DUE.is("3: KIND of 4", x.miner(4, 0), 2);
        DUE.is("3: KIND of 6", x.miner(6, 0), 0);
        DUE.is("3: beams, a place, words", Due.tell(x, "b193;a107;t160;t160;a319;").mine(), 5);
        DUE.is("3: beams", x.beams(19), 3);
        DUE.is("3: a place", x.pair(1, 0), 7);
        DUE.is("3: TO SAY ends at 99", x.pair(1, 1), 99);
        DUE.is("3: at the face", x.pair(3, 0), 19);
        DUE.is("3: beams taken away", Due.tell(x, "b190;").mine(), 1);
        DUE.is("3: no beams", x.beams(19), 0);
        DUE.is("3: 24 statements", Due.tell(x, "m01;".repeat(24)).mine(), 24);
        DUE.is("3: minute", x.count(1), 24);
    }

    private static void minutesAndChangesInTheirOrder() {
        LampOfTheSilent x = new LampOfTheSilent();
        DUE.is("3: all kinds", Due.tell(x, "b013;pt1d2;ps3m4;m01;x02;b031;m01;").mine(), 7);
        // t1 walks into 3 beams, changes to the other pair with them, and walks into 1 there.
        DUE.is("3: KIND of 2", x.miner(2, 0), 2);
        DUE.is("3: FIGURE of 2", x.miner(2, 1), 1);
        DUE.is("3: BRUISES of 2", x.miner(2, 2), 4);
        DUE.is("3: KIND of 0", x.miner(0, 0), 1);
        DUE.is("3: BRUISES of 0", x.miner(0, 2), 0);
        // Pair 0 goes 1 with the talker, then 2 with the shy one's lamp; pair 1 goes 2, then 1.
        DUE.is("3: CELL of 0", x.pair(0, 0), 3);
        DUE.is("3: CELL of 1", x.pair(1, 0), 3);
        DUE.is("3: minute", x.count(1), 2);
    }
}
