/** Promises 13 to 23, 27, 28, 30 and 34: what is asked in mind, told by hand. */
public final class ThoughtTest {
    private static final Due DUE = new Due();

    public static void main(String[] args) {
        pairAndBruisesThen();
        facedDoneHurt();
        begins();
        clears();
        change();
        bestKind();
        bestCell();
        hum();
        two();
        cough();
        whatIs();
        lots();
        DUE.end();
    }

    private static void pairAndBruisesThen() {
        LampOfTheSilent x = Due.mineOf("pm0d0;pd0t0;t003;b011;b022;b053;");
        int[] cells = {0, 1, 2, 3, 5, 7};
        int[] words = {3, 2, 1, 0, 0, 0};
        int[] bruises = {0, 1, 3, 3, 3, 3};
        int[] others = {0, 1, 3, 3, 3, 6};
        for (int n = 0; n < cells.length; n++) {
            DUE.is("13: pairThen(0, " + n + ", 0)", x.pairThen(0, n, 0), cells[n]);
            DUE.is("13: pairThen(0, " + n + ", 1)", x.pairThen(0, n, 1), words[n]);
            DUE.is("13: pairThen(1, " + n + ", 0)", x.pairThen(1, n, 0), n);
            DUE.is("14: bruisesThen(0, " + n + ")", x.bruisesThen(0, n), bruises[n]);
            DUE.is("14: bruisesThen(3, " + n + ")", x.bruisesThen(3, n), others[n]);
            DUE.is("14: bruisesThen(-1, " + n + ")", x.bruisesThen(-1, n), bruises[n] + others[n]);
        }
        DUE.is("13: pairThen(0, 60, 0)", x.pairThen(0, 60, 0), 19);
        DUE.is("14: bruisesThen(-1, 60)", x.bruisesThen(-1, 60), 9);
    }

    private static void facedDoneHurt() {
        LampOfTheSilent x = Due.mineOf("pt0d0;pd0d0;pd0d0;pm0m0;t005;t205;t302;b043;b191;");
        DUE.is("15: faced(0)", x.faced(0), 19);
        DUE.is("15: faced(1)", x.faced(1), 7);
        DUE.is("15: faced(3)", x.faced(3), 11);
        DUE.is("15: FIRST, of several the least", x.faced(-1), 1);
        DUE.is("15: ALL FACED", x.faced(-2), 19);
        DUE.is("16: done(0)", x.done(0), 5);
        DUE.is("16: done(1)", x.done(1), 0);
        DUE.is("16: done(2), which never says it", x.done(2), -9);
        DUE.is("16: done(3)", x.done(3), 2);
        DUE.is("17: hurt(0, 0)", x.hurt(0, 0), 0);
        DUE.is("17: hurt(0, 1)", x.hurt(0, 1), 4);
        DUE.is("17: hurt(0, 3)", x.hurt(0, 3), 4);
        DUE.is("17: hurt(0, 4)", x.hurt(0, 4), 19);
        DUE.is("17: hurt(0, 5)", x.hurt(0, 5), -9);
        DUE.is("17: hurt(1, 1)", x.hurt(1, 1), -9);
        x.stands(2, 19);
        DUE.is("15: FIRST is at the face", x.faced(-1), 2);
        DUE.is("15: faced at the face", x.faced(2), 0);
        x.minutes(19);
        DUE.is("15: ALL FACED now", x.faced(-2), 0);
        DUE.is("17: hurt already", x.hurt(0, 4), 0);
        DUE.is("16: done(2) at the face", x.done(2), -9);
        LampOfTheSilent none = new LampOfTheSilent();
        DUE.is("15: FIRST of nobody", none.faced(-1), -9);
        DUE.is("15: ALL FACED of nobody", none.faced(-2), 0);
    }

    private static void begins() {
        DUE.is("18: m m: 0 is 10 minutes, 1 as well", Due.mineOf("pm0m0;").begins(0), 1);
        DUE.is("18: t d: all of 0 .. 19 the same", Due.mineOf("pt0d0;").begins(0), 19);
        DUE.is("18: what they have to say now is nothing to it", Due.mineOf("pt0d0;t050;").begins(0), 19);
        DUE.is("18: d d: what is to say stays", Due.mineOf("pd0d0;t050;").begins(0), 0);
        DUE.is("18: t d ahead of the face", Due.mineOf("pt0d0;a018;").begins(0), 1);
        DUE.is("18: at the face", Due.mineOf("pt0t0;a019;t003;").begins(0), 0);
        DUE.is("18: d t speaks from the first", Due.mineOf("pd0t0;a009;").begins(0), 10);
        // The father as second: he speaks in even minutes only, the deaf one's lamp goes 3 in the odd ones.
        DUE.is("18: d f", Due.mineOf("pd0f0;").begins(0), 4);
    }

    private static void clears() {
        LampOfTheSilent x = Due.mineOf("pt0d0;pt0d0;a103;b011;b042;b052;b191;");
        DUE.is("19: clears(0)", x.clears(0), -9);
        DUE.is("19: clears(1)", x.clears(1), 4);
        DUE.is("19: clears(5), of several the least", x.clears(5), 4);
        DUE.is("19: clears(40)", x.clears(40), 4);
        x.props(5, 3);
        DUE.is("19: clears(1), which does not come to 5", x.clears(1), 4);
        DUE.is("19: clears(5), the dearest", x.clears(5), 5);
        DUE.is("19: nobody is hurt", Due.mineOf("pd0d0;b033;").clears(40), -9);
        // Without the beams in 1 the shy one says his word on the way there, and only the talker's way to 2 hurts.
        LampOfTheSilent y = Due.mineOf("ps0t0;t001;b012;b021;");
        DUE.is("19: clears(2)", y.clears(2), 1);
    }

    private static void change() {
        DUE.is("20: one pair", Due.mineOf("pt0d0;").change(), -9);
        DUE.is("20: nobody", new LampOfTheSilent().change(), -9);
        // The talker 0 speaks on and on, 1 cell a minute: with the deaf 3 in its place they go 3.
        LampOfTheSilent x = Due.mineOf("pt0d0;pt0d0;a119;");
        DUE.is("20: 0 with the deaf one of those at the face", x.change(), 3);
        x.stands(1, 0);
        DUE.is("20: two pairs with a talker each, whoever changes", x.change(), -9);
        x.stands(1, 18);
        DUE.is("20: sooner, if both talkers are near the face", x.change(), 3);
        DUE.is("20: all there already", Due.mineOf("pt0d0;pt0d0;a019;a119;").change(), -9);
        LampOfTheSilent y = Due.mineOf("pm0d0;pm0d0;pt0d0;a119;a219;t030;");
        DUE.is("20: of several the first", y.change(), 3);
        DUE.is("20: nothing is changed", y.miner(0, 0), 0);
        LampOfTheSilent z = Due.mineOf("pd0d0;pt0d0;a019;");
        DUE.is("20: the lesser first", z.change(), 2);
    }

    private static void bestKind() {
        LampOfTheSilent x = Due.mineOf("pt0d0;");
        DUE.is("21: a deaf one goes 3", x.bestKind(0, 0), 3);
        DUE.is("21: behind 7", x.bestKind(0, 1), 7);
        DUE.is("21: beside a talker all are the same", x.bestKind(1, 0), 0);
        DUE.is("21: behind 19", x.bestKind(1, 1), 19);
        DUE.is("21: the kind stays", x.miner(0, 0), 2);
        LampOfTheSilent y = Due.mineOf("pm0t0;");
        DUE.is("21: whoever is the second's hearer", y.bestKind(1, 0), 0);
        DUE.is("21: with nothing to say", y.bestKind(1, 1), 10);
        y.adds(0, 30);
        DUE.is("21: of the first", y.bestKind(0, 0), 0);
        DUE.is("21: of the second, the first speaks", y.bestKind(1, 1), 19);
        y.stands(0, 19);
        DUE.is("21: at the face", y.bestKind(0, 0), 0);
        DUE.is("21: at the face, when", y.bestKind(0, 1), 0);
        DUE.is("21: m goes 2 with nothing to say", Due.mineOf("pt0m0;a017;").bestKind(0, 1), 1);
        DUE.is("21: m is the least of those", Due.mineOf("pt0m0;a017;").bestKind(0, 0), 0);
        // In minute 3 an overseer of 0 is silent and goes 2, of 1 he speaks: by his FIGURE.
        DUE.is("21: o0", Due.mineOf("pt0t0;m02;a017;").bestKind(1, 1), 2);
        DUE.is("21: d0 o0", Due.mineOf("pd0t0;m02;a017;").bestKind(1, 0), 0);
        DUE.is("21: d0 with a word to say, o0", Due.mineOf("pd0t0;m02;a017;t005;").bestKind(1, 0), 3);
        DUE.is("21: d0 with a word to say, ahead of beams", Due.mineOf("pd0t0;m02;a017;t005;b181;").bestKind(1, 0), 1);
    }

    private static void bestCell() {
        LampOfTheSilent x = Due.mineOf("pt0d0;b191;");
        DUE.is("22: only the face itself", x.bestCell(0, 0), 19);
        DUE.is("22: no beams", x.bestCell(0, 1), 0);
        LampOfTheSilent y = Due.mineOf("pt0d0;b192;b071;");
        y.stands(0, 12);
        DUE.is("22: wherever they are now", y.bestCell(0, 0), 19);
        y.props(19, 0);
        DUE.is("22: the least behind the last beams", y.bestCell(0, 0), 7);
        // With one word the miner speaks only in the first minute.
        LampOfTheSilent z = Due.mineOf("pm0m0;t001;b011;b052;");
        DUE.is("22: TO SAY as it is", z.bestCell(0, 0), 1);
        z.adds(0, 4);
        DUE.is("22: TO SAY 5", z.bestCell(0, 0), 5);
        DUE.is("22: the cell stays", z.pair(0, 0), 0);
    }

    private static void hum() {
        LampOfTheSilent x = Due.mineOf("pd0d0;");
        DUE.is("23: hum(0, 6)", x.hum(0, 6), -9);
        DUE.is("23: hum(0, 7)", x.hum(0, 7), 0);
        DUE.is("23: hum(0, 0)", x.hum(0, 0), -9);
        x.stands(0, 17);
        x.props(18, 2);
        x.props(19, 3);
        DUE.is("23: silent all the way", x.hum(0, 1), 0);
        x.turn(0, 2, 0);
        DUE.is("23: with a talker's lamp, silent", x.hum(0, 2), 0);
        DUE.is("23: one minute is too short", x.hum(0, 1), -9);
        x.stands(0, 19);
        DUE.is("23: at the face", x.hum(0, 0), 0);
        DUE.is("23: at the face, on and on", x.hum(0, 12), 0);
        LampOfTheSilent y = Due.mineOf("pt0m0;a007;");
        DUE.is("23: 12 minutes of 1", y.hum(0, 12), 0);
        DUE.is("23: 11 minutes of 1", y.hum(0, 11), -9);
        y.turn(1, 3, 0);
        DUE.is("23: the second's KIND is nothing to it", y.hum(0, 11), -9);
    }

    private static void two() {
        LampOfTheSilent x = Due.mineOf("pm0m0;t003;");
        DUE.is("27: nothing hurts, so who speaks ends it", x.two(0, 3), 1);
        DUE.is("27: too short", x.two(0, 2), 0);
        DUE.is("27: no minutes", x.two(0, 0), 0);
        LampOfTheSilent y = Due.mineOf("pm0m0;t003;b011;b021;b031;");
        DUE.is("27: three beams for three words", y.two(0, 3), 0);
        y.props(3, 0);
        DUE.is("27: two beams for three words", y.two(0, 3), 1);
        y.props(1, 3);
        DUE.is("27: four beams are too many", y.two(0, 3), 0);
        // He who has 98 BRUISES can have 1 more at the most: to him four beams are cheap.
        LampOfTheSilent z = Due.mineOf("pt0m0;t003;b011;b021;b032;");
        DUE.is("27: four beams, and both are sound", z.two(0, 3), 0);
        bruise(z, 98);
        DUE.is("27: the first has 98", z.miner(0, 2), 98);
        DUE.is("27: four beams, and the first alone is near 99", z.two(0, 3), 10);
        z.swaps(0, 1);
        DUE.is("27: the second alone is near 99", z.two(0, 3), 1);
        DUE.is("27: at the face", Due.mineOf("pt0t0;a019;t004;").two(0, 30), 0);
        DUE.is("27: nothing to say", Due.mineOf("pt0t0;").two(0, 30), 0);
    }

    /** The first of pair 0 speaks at beams till he has so many bruises; then four beams and three words are ahead. */
    private static void bruise(LampOfTheSilent x, int bruises) {
        x.turn(0, 2, 0);
        Due.bruise(x, bruises, 1);
        x.adds(0, 3);
        x.props(2, 1);
        x.props(3, 2);
    }

    private static void fraction(LampOfTheSilent x, int[] asked, long above, long below) {
        String call = "28: cough of " + asked[0] + ", " + asked[1] + ", " + asked[2] + ", " + asked[3];
        DUE.is(call + ", above", x.cough(asked[0], asked[1], asked[2], asked[3], 0), above);
        DUE.is(call + ", below", x.cough(asked[0], asked[1], asked[2], asked[3], 1), below);
    }

    private static void cough() {
        LampOfTheSilent x = Due.mineOf("pd0d0;pm0m0;pt0t0;a119;");
        fraction(x, new int[] {0, 0, 2, 0}, 1, 1);
        fraction(x, new int[] {0, 0, 2, 1}, 0, 1);
        fraction(x, new int[] {0, 1, 2, 1}, 1, 1);
        fraction(x, new int[] {0, 1, 2, 2}, 1, 2);
        fraction(x, new int[] {0, 1, 20, 3}, 19, 20);
        fraction(x, new int[] {0, 2, 4, 4}, 15, 16);
        fraction(x, new int[] {0, 2, 4, 5}, 9, 16);
        fraction(x, new int[] {0, 7, 20, 19}, 611596453, 640000000);
        fraction(x, new int[] {1, 7, 20, 19}, 1, 1);
        fraction(x, new int[] {2, 7, 3, 7}, 1, 1);
        fraction(x, new int[] {2, 7, 3, 8}, 0, 1);
        // Who wants to speak by kind does so where nobody coughs: with a word to say they go 1 either way.
        x.stands(1, 0);
        x.adds(1, 1);
        fraction(x, new int[] {1, 1, 3, 2}, 0, 1);
        fraction(x, new int[] {1, 2, 3, 3}, 2, 3);
        fraction(x, new int[] {1, 3, 2, 5}, 1, 4);
        // The minute goes on: a father is silent in the odd minutes, speaks in the even ones.
        x.turn(0, 3, 0);
        x.turn(1, 4, 0);
        fraction(x, new int[] {0, 2, 2, 4}, 1, 2);
        fraction(x, new int[] {0, 3, 2, 7}, 1, 4);
    }

    private static void whatIs() {
        LampOfTheSilent x = Due.mineOf("pd0d0;");
        DUE.is("30: no row, KINDS", x.whatIs(0, 0), 0b111111);
        DUE.is("30: no row, FIGURES", x.whatIs(1, 1), 0b1111111111);
        Due.rowed(x, 0);
        DUE.is("30: where they are", x.whatIs(0, 0), 0b111111);
        Due.rowed(x, 1);
        DUE.is("30: where they are not", x.whatIs(0, 0), 0);
        Due.rowed(x, 0, 1);
        DUE.is("30: one cell in one minute", x.whatIs(0, 0), 0b110100);
        DUE.is("30: one cell for the second one's talk", x.whatIs(1, 0), 0b100100);
        Due.rowed(x, 0, 1, 2, 3);
        // The overseer of 0 is silent in minute 3, and goes 2 then.
        DUE.is("30: one cell in each of three", x.whatIs(0, 0), 0b010100);
        x.turn(0, 5, 0);
        DUE.is("30: an overseer's FIGURES", x.whatIs(0, 1), 0b1111111110);
        Due.rowed(x, 0, 1, 2, 4);
        DUE.is("30: an overseer's FIGURE", x.whatIs(0, 1), 1);
        DUE.is("30: his KIND", x.whatIs(0, 0), 0b100000);
        DUE.is("30: the row stays", x.count(6), 4);
        DUE.is("30: he stays", x.miner(0, 0) * 10 + x.miner(0, 1), 50);
    }

    private static void lots() {
        LampOfTheSilent x = new LampOfTheSilent();
        DUE.is("34: nobody, AT the FACE", x.lots(20, 5, 0), 0);
        DUE.is("34: nobody, BRUISES", x.lots(20, 5, 1), 0);
        // With seed 0 the first draws are 3960563 modulo 20 and, of z 1196435762, 4673577 modulo 12.
        Due.tell(x, "pt0d0;b042;b133;b143;").mine();
        DUE.is("34: from cell 3 to 13, AT the FACE", x.lots(1, 0, 0), 0);
        DUE.is("34: from cell 3 to 13, BRUISES", x.lots(1, 0, 1), 5);
        DUE.is("34: nobody is moved", x.pair(0, 0), 0);
        DUE.is("34: MINUTE stays", x.count(1), 0);
        x.minutes(13);
        DUE.is("34: BRUISES more", x.lots(1, 0, 1), 5);
        LampOfTheSilent y = Due.mineOf("pd0d0;");
        DUE.is("34: a negative seed", y.lots(20, -1, 0), y.lots(20, Integer.MAX_VALUE, 0));
        DUE.is("34: d goes 30 cells", y.lots(20, 77, 0), 20);
    }
}
