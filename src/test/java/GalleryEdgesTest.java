/** The boundary cases of part I: the numbers of the gallery, the KINDS, a MINUTE; sentence by sentence. */
public final class GalleryEdgesTest {
    private static final Due DUE = new Due();
    private static final String PAIR = "pm0m0;";
    private static final String ALL_BEAMS_3 = "b003;b013;b023;b033;b043;b053;b063;b073;b083;b093;";
    private static final String ALL_BEAMS_3_ON = "b103;b113;b123;b133;b143;b153;b163;b173;b183;b193;";

    public static void main(String[] args) {
        cells();
        beams();
        theFace();
        pairs();
        figures();
        bruisesAtFirst();
        bruisesAt99();
        bruisesThatChangePlacesAt99();
        cellsAtFirst();
        toSay();
        minute();
        miners();
        wantsOfMiner();
        wantsOfShy();
        wantsOfTalker();
        wantsOfDeaf();
        wantsOfFather();
        wantsOfOverseer();
        wantsNearMinute999();
        goes();
        asAboveThem();
        minuteIsOneMoreFirst();
        notAtTheFace();
        firstWhoWantsTo();
        noneDoes();
        toSayIsLess();
        theBeamsInTheCell();
        soManyCellsAtMost();
        DUE.end();
    }

    private static void cells() {
        DUE.by("I", "CELLS 0 .. 19");
        LampOfTheSilent x = Due.mineOf(PAIR);
        DUE.is("beams(-1)", x.beams(-1), -1);
        DUE.is("beams(0)", x.beams(0), 0);
        DUE.is("beams(19)", x.beams(19), 0);
        DUE.is("beams(20)", x.beams(20), -1);
        DUE.is("props(0, 1)", x.props(0, 1), 0);
        DUE.is("props(19, 2)", x.props(19, 2), 0);
        DUE.is("beams(0)", x.beams(0), 1);
        DUE.is("beams(1)", x.beams(1), 0);
        DUE.is("beams(18)", x.beams(18), 0);
        DUE.is("beams(19)", x.beams(19), 2);
        DUE.is("stands(0, -1)", x.stands(0, -1), -1);
        DUE.is("stands(0, 0)", x.stands(0, 0), 0);
        DUE.is("stands(0, 19)", x.stands(0, 19), 0);
        DUE.is("stands(0, 20)", x.stands(0, 20), -1);
        DUE.is("pair(0, 0)", x.pair(0, 0), 19);
    }

    private static void beams() {
        DUE.by("I", "BEAMS (0 .. 3) in each (0 at first)");
        LampOfTheSilent x = new LampOfTheSilent();
        for (int cell = 0; cell < 20; cell++) {
            DUE.is("beams(" + cell + ") at first", x.beams(cell), 0);
        }
        DUE.is("props(7, -1)", x.props(7, -1), -4);
        DUE.is("props(7, 4)", x.props(7, 4), -6);
        DUE.is("props(7, 3)", x.props(7, 3), 0);
        DUE.is("props(7, 0)", x.props(7, 0), 3);
        DUE.is("props(7, 1)", x.props(7, 1), 0);
        DUE.is("beams(7)", x.beams(7), 1);
        DUE.is("beams(6)", x.beams(6), 0);
        DUE.is("beams(8)", x.beams(8), 0);
    }

    private static void theFace() {
        DUE.by("I", "the FACE is CELL 19");
        LampOfTheSilent x = Due.mineOf("pt0t0;a018;");
        DUE.is("count(2) in CELL 18", x.count(2), 0);
        DUE.is("faced(0) in CELL 18", x.faced(0), 1);
        DUE.is("minutes(1)", x.minutes(1), 1);
        DUE.is("pair(0, 0)", x.pair(0, 0), 19);
        DUE.is("count(2) in CELL 19", x.count(2), 1);
        DUE.is("minutes(1)", x.minutes(1), 1);
        DUE.is("pair(0, 0) still", x.pair(0, 0), 19);
    }

    private static void pairs() {
        DUE.by("I", "PAIRS 0 .. as they come (4 at most): of two MINERS");
        LampOfTheSilent x = new LampOfTheSilent();
        DUE.is("pair(0, 0) without PAIRS", x.pair(0, 0), -1);
        DUE.is("miner(0, 0) without PAIRS", x.miner(0, 0), -1);
        for (int n = 1; n <= 4; n++) {
            DUE.is("the mine of PAIR " + (n - 1), Due.tell(x, PAIR).mine(), 1);
            DUE.is("count(0)", x.count(0), n);
            DUE.is("the last PAIR", x.pair(n - 1, 0), 0);
            DUE.is("a PAIR more", x.pair(n, 0), -1);
            DUE.is("the last MINER", x.miner(2 * n - 1, 0), 0);
            DUE.is("a MINER more", x.miner(2 * n, 0), -1);
        }
        DUE.is("the mine of a fifth PAIR", Due.tell(x, PAIR).mine(), -2000);
        DUE.is("count(0)", x.count(0), 4);
        DUE.is("pair(4, 0)", x.pair(4, 0), -1);
        DUE.is("miner(8, 0)", x.miner(8, 0), -1);
    }

    private static void figures() {
        DUE.by("I", "each of a KIND with a FIGURE (0 .. 9)");
        LampOfTheSilent x = Due.mineOf("pm0o9;");
        DUE.is("FIGURE 0", x.miner(0, 1), 0);
        DUE.is("FIGURE 9", x.miner(1, 1), 9);
        DUE.is("turn(0, 0, 9)", x.turn(0, 0, 9), 0);
        DUE.is("turn(1, 5, 0)", x.turn(1, 5, 0), 59);
        DUE.is("turn(0, 0, 10)", x.turn(0, 0, 10), -6);
        DUE.is("turn(0, 0, -1)", x.turn(0, 0, -1), -4);
        DUE.is("FIGURE 9", x.miner(0, 1), 9);
        DUE.is("FIGURE 0", x.miner(1, 1), 0);
    }

    private static void bruisesAtFirst() {
        DUE.by("I", "each BRUISED (0 .. 99; 0 at first)");
        LampOfTheSilent x = Due.mineOf("b003;", PAIR + PAIR);
        for (int m = 0; m < 4; m++) {
            DUE.is("miner(" + m + ", 2) at first", x.miner(m, 2), 0);
        }
        DUE.is("count(3) at first", x.count(3), 0);
    }

    private static void bruisesAt99() {
        DUE.by("I", "the BEAMS in it BRUISE him who SPEAKS (so many more, 99 at most)");
        int[][] due = {{95, 3, 98}, {96, 3, 99}, {97, 2, 99}, {97, 3, 99}, {98, 0, 98}, {98, 1, 99}, {98, 2, 99},
            {98, 3, 99}, {99, 0, 99}, {99, 1, 99}, {99, 3, 99}};
        for (int[] one : due) {
            LampOfTheSilent x = Due.bruised(one[0], one[1]);
            DUE.is("the BRUISES ahead of it", x.miner(0, 2), one[0]);
            DUE.is(one[0] + " and " + one[1] + " in mind", x.bruisesThen(0, 1), one[2]);
            x.minutes(1);
            DUE.is(one[0] + " and " + one[1], x.miner(0, 2), one[2]);
            DUE.is("all of " + one[0] + " and " + one[1], x.count(3), one[2]);
            DUE.is("the other's of " + one[0] + " and " + one[1], x.miner(1, 2), 0);
        }
    }

    private static void bruisesThatChangePlacesAt99() {
        DUE.by("I", "they change places (KIND, FIGURE, BRUISES go with them)");
        LampOfTheSilent x = Due.tell(Due.bruised(99, 3), "pd1d2;x03;");
        DUE.is("mine()", x.mine(), 2);
        DUE.is("miner(3, 2)", x.miner(3, 2), 99);
        DUE.is("miner(0, 2)", x.miner(0, 2), 0);
        DUE.is("miner(3, 0)", x.miner(3, 0), 2);
        DUE.is("miner(0, 1)", x.miner(0, 1), 2);
        DUE.is("miner(3, 1)", x.miner(3, 1), 0);
    }

    private static void cellsAtFirst() {
        DUE.by("I", "AT a CELL (0 at first)");
        LampOfTheSilent x = Due.mineOf(PAIR, "a019;", PAIR);
        DUE.is("pair(0, 0)", x.pair(0, 0), 19);
        DUE.is("pair(1, 0) at first", x.pair(1, 0), 0);
    }

    private static void toSay() {
        DUE.by("I", "TO SAY (0 .. 99; 0 at first)");
        LampOfTheSilent x = Due.mineOf(PAIR, "t099;", PAIR);
        DUE.is("pair(1, 1) at first", x.pair(1, 1), 0);
        DUE.is("pair(0, 1)", x.pair(0, 1), 99);
        DUE.is("adds(0, 1) to 99", x.adds(0, 1), 99);
        DUE.is("adds(1, 98)", x.adds(1, 98), 98);
        DUE.is("adds(1, 1) to 98", x.adds(1, 1), 99);
        LampOfTheSilent y = Due.mineOf(PAIR, "t098;");
        DUE.is("adds(0, 2) to 98", y.adds(0, 2), 99);
        DUE.is("count(4)", y.count(4), 99);
        y.minutes(1);
        DUE.is("pair(0, 1): no word is kept above 99", y.pair(0, 1), 98);
    }

    private static void minute() {
        DUE.by("I", "MINUTE (0 .. 999; 0 at first)");
        LampOfTheSilent x = new LampOfTheSilent();
        DUE.is("count(1) at first", x.count(1), 0);
        Due.atMinute(x, 998);
        DUE.is("minutes(2) at 998", x.minutes(2), -6);
        DUE.is("minutes(1) at 998", x.minutes(1), 0);
        DUE.is("count(1)", x.count(1), 999);
        DUE.is("minutes(1) at 999", x.minutes(1), -6);
        DUE.is("count(1)", x.count(1), 999);
    }

    private static void miners() {
        DUE.by("I", "MINERS are told 0 .. as 2 times the PAIR and 0, 1.");
        LampOfTheSilent x = Due.mineOf("pm1s2;pt3d4;pf5o6;pm7s8;");
        int[] kinds = {0, 1, 2, 3, 4, 5, 0, 1};
        for (int m = 0; m < 8; m++) {
            DUE.is("miner(" + m + ", 0)", x.miner(m, 0), kinds[m]);
            DUE.is("miner(" + m + ", 1)", x.miner(m, 1), m + 1);
        }
        DUE.is("miner(-1, 0)", x.miner(-1, 0), -1);
        DUE.is("miner(8, 0)", x.miner(8, 0), -1);
    }

    /** Whether the first of PAIR 0 wants to speak in the next minute: the second is deaf. */
    private static void wants(String mine, int minute, boolean due) {
        LampOfTheSilent x = Due.atMinute(new LampOfTheSilent(), minute);
        Due.tell(x, mine).mine();
        String call = mine + " at MINUTE " + minute;
        DUE.is("eager() of " + call, x.eager(), due ? 1 : 0);
        DUE.is("pair(0, 2) of " + call, x.pair(0, 2), due ? 0 : -9);
    }

    private static void wantsOfMiner() {
        DUE.by("I", "m MINER: TO SAY is above 0;");
        wants("pm0d0;", 0, false);
        wants("pm0d0;t001;", 0, true);
        wants("pm0d0;t002;b013;", 0, true);
        wants("pm0d0;t099;", 0, true);
    }

    private static void wantsOfShy() {
        DUE.by("I", "s SHY under MINER: so, and no BEAMS are ahead;");
        wants("ps0d0;", 0, false);
        wants("ps0d0;t001;", 0, true);
        wants("ps0d0;t099;b011;", 0, false);
        wants("ps0d0;t001;b013;", 0, false);
        wants("ps0d0;t001;b003;b023;", 0, true);
        wants("ps0d0;t001;a018;b183;", 0, true);
        wants("ps0d0;t001;a018;b191;", 0, false);
        DUE.by("I", "whether one wants to SPEAK in a MINUTE (by TO SAY, BEAMS in the CELL ahead, MINUTE)");
        wants("ps0d0;t001;a017;b191;", 0, true);
        wants("ps0d0;t001;a017;b181;", 0, false);
    }

    private static void wantsOfTalker() {
        DUE.by("I", "t TALKER under MINER: always;");
        wants("pt0d0;", 0, true);
        wants("pt0d0;b013;", 0, true);
        wants("pt0d0;t099;", 1, true);
        wants("pt9d0;", 11, true);
    }

    private static void wantsOfDeaf() {
        DUE.by("I", "d DEAF under SHY: never;");
        wants("pd0d0;t099;", 0, false);
        wants("pd9d0;t001;", 1, false);
    }

    private static void wantsOfFather() {
        DUE.by("I", "f FATHER under TALKER: if MINUTE is even;");
        wants("pf0d0;", 0, false);
        wants("pf0d0;", 1, true);
        wants("pf0d0;t099;", 2, false);
        wants("pf0d0;b013;", 3, true);
    }

    private static void wantsOfOverseer() {
        DUE.by("I", "o OVERSEER under TALKER: as a TALKER, but not if 3 more than FIGURE divides MINUTE;");
        for (int figure = 0; figure <= 9; figure++) {
            int every = figure + 3;
            wants("po" + figure + "d0;", 0, true);
            wants("po" + figure + "d0;", every - 2, true);
            wants("po" + figure + "d0;", every - 1, false);
            wants("po" + figure + "d0;", every, true);
            wants("po" + figure + "d0;t009;", 2 * every - 1, false);
        }
    }

    private static void wantsNearMinute999() {
        DUE.by("II", "(In thought MINUTE may pass 999.)");
        wants("pf0d0;", 998, false);
        wants("pf0d0;", 999, true);
        wants("po0d0;", 998, false);
        wants("po0d0;", 999, true);
        wants("po1d0;", 998, true);
        wants("po1d0;", 999, false);
    }

    private static void goes() {
        DUE.by("I", "how many CELLS one goes who holds the lamp");
        LampOfTheSilent x = Due.mineOf("pm0s0;pt0d0;pf0o0;");
        int[] due = {2, 2, 1, 3, 1, 2};
        for (int m = 0; m < 6; m++) {
            DUE.is("miner(" + m + ", 3)", x.miner(m, 3), due[m]);
        }
        // Each in a minute in which he holds the lamp and nobody speaks; a talker never is.
        DUE.is("m", Due.mineOf("pm0d0;").pairThen(0, 1, 0), 2);
        DUE.is("s", Due.mineOf("ps0d0;t009;b013;").pairThen(0, 1, 0), 2);
        DUE.is("d", Due.mineOf("pd0d0;").pairThen(0, 1, 0), 3);
        DUE.is("f in an odd minute", Due.mineOf("pf0d0;").pairThen(0, 1, 0), 1);
        DUE.is("o in minute 3", Due.mineOf("m02;po0d0;").pairThen(0, 1, 0), 2);
    }

    private static void asAboveThem() {
        DUE.by("I", "Where it is not told as above them.");
        wants("pt0d0;t099;b013;", 0, true);
        wants("po9d0;t000;b013;", 0, true);
        DUE.is("s goes as m", Due.mineOf("ps0d0;").miner(0, 3), 2);
        DUE.is("d goes 1 more than s", Due.mineOf("pd0d0;").miner(0, 3), 3);
        DUE.is("f goes as t", Due.mineOf("pf0d0;").miner(0, 3), 1);
        DUE.is("o goes 1 more than t", Due.mineOf("po0d0;").miner(0, 3), 2);
    }

    private static void minuteIsOneMoreFirst() {
        DUE.by("I", "MINUTE is 1 more; PAIRS by numbers, each not AT the FACE:");
        LampOfTheSilent x = Due.mineOf("pd0f0;");
        x.minutes(1);
        DUE.is("minute 1: the father is silent", x.pair(0, 0), 3);
        x.minutes(1);
        DUE.is("minute 2: he speaks", x.pair(0, 0), 4);
        DUE.is("count(1)", x.count(1), 2);
    }

    private static void notAtTheFace() {
        DUE.by("I", "each not AT the FACE");
        LampOfTheSilent x = Due.mineOf("pt0t0;a019;t005;b193;");
        DUE.is("minutes(60)", x.minutes(60), 1);
        DUE.is("pair(0, 0)", x.pair(0, 0), 19);
        DUE.is("pair(0, 1)", x.pair(0, 1), 5);
        DUE.is("count(3)", x.count(3), 0);
    }

    private static void firstWhoWantsTo() {
        DUE.by("I", "the first MINER who wants to SPEAK (by where they are, MINUTE then) does, the other holds the lamp;");
        LampOfTheSilent x = Due.mineOf("pt0t0;pd0t0;pt0d0;b013;m01;");
        int[] due = {3, 0, 0, 3, 3, 0};
        for (int m = 0; m < 6; m++) {
            DUE.is("miner(" + m + ", 2)", x.miner(m, 2), due[m]);
        }
        for (int p = 0; p < 3; p++) {
            DUE.is("pair(" + p + ", 0): 1 CELL, whoever holds the lamp", x.pair(p, 0), 1);
        }
    }

    private static void noneDoes() {
        DUE.by("I", "none does: the first holds it.");
        LampOfTheSilent x = Due.mineOf("pd0m0;pm0d0;b012;b022;b032;m01;");
        DUE.is("pair(0, 0)", x.pair(0, 0), 3);
        DUE.is("pair(1, 0)", x.pair(1, 0), 2);
        DUE.is("count(3): who holds the lamp walks into none", x.count(3), 0);
    }

    private static void toSayIsLess() {
        DUE.by("I", "One SPEAKS: TO SAY is 1 less (0 at least);");
        LampOfTheSilent x = Due.mineOf("pt0d0;t002;");
        int[] due = {1, 0, 0};
        for (int n = 0; n < 3; n++) {
            x.minutes(1);
            DUE.is("pair(0, 1) behind " + (n + 1), x.pair(0, 1), due[n]);
        }
        DUE.is("pair(0, 1) of who is silent", Due.mineOf("pd0d0;t002;m01;").pair(0, 1), 2);
    }

    private static void theBeamsInTheCell() {
        DUE.by("I", "they go 1 CELL; the BEAMS in it BRUISE him who SPEAKS");
        LampOfTheSilent x = Due.mineOf("pt0d0;b003;b011;b023;");
        x.minutes(1);
        DUE.is("those of CELL 1, not of 0 or 2", x.miner(0, 2), 1);
        LampOfTheSilent y = Due.mineOf("pt0d0;a018;b181;b192;");
        y.minutes(1);
        DUE.is("those of the FACE", y.miner(0, 2), 2);
        LampOfTheSilent z = Due.mineOf("pt0d0;", ALL_BEAMS_3, ALL_BEAMS_3_ON);
        z.minutes(60);
        DUE.is("all from 1 to the FACE", z.miner(0, 2), 57);
    }

    private static void soManyCellsAtMost() {
        DUE.by("I", "they go so many CELLS as who holds the lamp goes (the FACE at most).");
        int[][] due = {{15, 18}, {16, 19}, {17, 19}, {18, 19}, {19, 19}};
        for (int[] one : due) {
            LampOfTheSilent x = Due.mineOf("pd0d0;");
            x.stands(0, one[0]);
            DUE.is("in mind 3 from " + one[0], x.pairThen(0, 1, 0), one[1]);
            x.minutes(1);
            DUE.is("3 from " + one[0], x.pair(0, 0), one[1]);
        }
        DUE.is("2 from 17", Due.mineOf("pm0m0;a017;m01;").pair(0, 0), 19);
        DUE.is("2 from 18", Due.mineOf("pm0m0;a018;m01;").pair(0, 0), 19);
    }
}
