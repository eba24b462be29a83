/** The boundary cases of promises 4 to 12 and 35 to 37, of THE IMAGE and of the 512 calls; sentence by sentence. */
public final class StateEdgesTest {
    private static final Due DUE = new Due();
    private static final String TO_MINUTE_999 = "m60;".repeat(16) + "m39;";

    public static void main(String[] args) {
        minerOfAll();
        pairOfAll();
        propsAnswers();
        standsAnswers();
        addsAnswers();
        swapsAnswers();
        turnAnswers();
        minutesAnswer();
        minutesToTheLast();
        imageOfNothing();
        imageOfAll();
        imageWithoutIt();
        imageWithoutRow();
        imageWithoutLetters();
        imageWithoutRefusals();
        imageTakenAgain();
        imageAtMinute999();
        onWithoutOne();
        countOfNothing();
        countOfAllFull();
        countOfAnotherWhat();
        countOfRefusals();
        eachRefusal();
        theFirstThatFits();
        fiveHundredAndTwelveCalls();
        DUE.end();
    }

    private static LampOfTheSilent mine(String... texts) {
        return Due.mineOf(texts);
    }

    private static void minerOfAll() {
        DUE.by("Promise 4", "Of a MINER: 0 KIND (0 m, 1 s, 2 t, 3 d, 4 f, 5 o), 1 FIGURE, 2 BRUISES, 3 how many CELLS he goes. -1; -2.");
        LampOfTheSilent x = mine("pt9o0;b013;m01;");
        int[] first = {2, 9, 3, 1};
        int[] second = {5, 0, 0, 2};
        for (int what = 0; what < 4; what++) {
            DUE.is("miner(0, " + what + ")", x.miner(0, what), first[what]);
            DUE.is("miner(1, " + what + ")", x.miner(1, what), second[what]);
        }
        DUE.is("miner(1, 4)", x.miner(1, 4), -2);
        DUE.is("miner(1, -1)", x.miner(1, -1), -2);
        DUE.is("miner(2, 4)", x.miner(2, 4), -1);
    }

    private static void pairOfAll() {
        DUE.by("Promise 5", "Of a PAIR: 0 CELL, 1 TO SAY, 2 who would SPEAK next (0, 1; -9). -1; -2.");
        LampOfTheSilent x = mine("pm0m0;pd0t0;pt0t0;a018;t099;a219;");
        int[][] due = {{18, 99, 0}, {0, 0, 1}, {19, 0, -9}};
        for (int p = 0; p < 3; p++) {
            for (int what = 0; what < 3; what++) {
                DUE.is("pair(" + p + ", " + what + ")", x.pair(p, what), due[p][what]);
            }
        }
        DUE.is("-9 is no REFUSAL", Seen.refusals(x).equals(Seen.refusals(new LampOfTheSilent())) ? 1 : 0, 1);
        DUE.is("pair(0, 3)", x.pair(0, 3), -2);
        DUE.is("pair(0, -1)", x.pair(0, -1), -2);
        DUE.is("pair(3, 3)", x.pair(3, 3), -1);
    }

    private static void propsAnswers() {
        DUE.by("Promise 7", "BEAMS become v: what there were. -1; -4; -6 3.");
        LampOfTheSilent x = new LampOfTheSilent();
        for (int cell : new int[] {0, 19}) {
            DUE.is("props(" + cell + ", 0) of none", x.props(cell, 0), 0);
            DUE.is("props(" + cell + ", 3) of none", x.props(cell, 3), 0);
            DUE.is("props(" + cell + ", 3) of 3", x.props(cell, 3), 3);
            DUE.is("props(" + cell + ", 4) of 3", x.props(cell, 4), -6);
            DUE.is("props(" + cell + ", -1) of 3", x.props(cell, -1), -4);
            DUE.is("props(" + cell + ", 0) of 3", x.props(cell, 0), 3);
            DUE.is("beams(" + cell + ")", x.beams(cell), 0);
        }
        DUE.is("props(20, -1)", x.props(20, -1), -1);
        DUE.is("props(-1, 4)", x.props(-1, 4), -1);
    }

    private static void standsAnswers() {
        DUE.by("Promise 8", "They are there: where they were. -1 either.");
        LampOfTheSilent x = mine("pm0m0;pm0m0;");
        DUE.is("stands(1, 0) in CELL 0", x.stands(1, 0), 0);
        DUE.is("stands(1, 19) in CELL 0", x.stands(1, 19), 0);
        DUE.is("stands(1, 19) in CELL 19", x.stands(1, 19), 19);
        DUE.is("count(2)", x.count(2), 2);
        DUE.is("stands(1, 20) in CELL 19", x.stands(1, 20), -1);
        DUE.is("stands(1, -1) in CELL 19", x.stands(1, -1), -1);
        DUE.is("stands(1, 0) in CELL 19", x.stands(1, 0), 19);
        DUE.is("pair(0, 0)", x.pair(0, 0), 0);
    }

    private static void addsAnswers() {
        DUE.by("Promise 9", "v more TO SAY (99 at most): TO SAY then. -1; -4; -6 99.");
        LampOfTheSilent x = mine("pm0m0;");
        DUE.is("adds(0, 0) to 0", x.adds(0, 0), 0);
        DUE.is("adds(0, 98) to 0", x.adds(0, 98), 98);
        DUE.is("adds(0, 0) to 98", x.adds(0, 0), 98);
        DUE.is("adds(0, 1) to 98", x.adds(0, 1), 99);
        DUE.is("adds(0, 0) to 99", x.adds(0, 0), 99);
        DUE.is("adds(0, 1) to 99", x.adds(0, 1), 99);
        DUE.is("adds(0, 99) to 99", x.adds(0, 99), 99);
        DUE.is("adds(0, 100) to 99", x.adds(0, 100), -6);
        DUE.is("adds(0, -1) to 99", x.adds(0, -1), -4);
        DUE.is("pair(0, 1)", x.pair(0, 1), 99);
        DUE.is("adds(0, 99) to 0", mine("pm0m0;").adds(0, 99), 99);
        DUE.is("adds(0, 100) to 0", mine("pm0m0;").adds(0, 100), -6);
    }

    private static void swapsAnswers() {
        DUE.by("Promise 10", "They change places: KIND of the first one's place then. -1 either (one twice, too).");
        LampOfTheSilent x = mine("pm1s2;pt3d4;pf5o6;pf7o8;");
        DUE.is("swaps(0, 7)", x.swaps(0, 7), 5);
        DUE.is("miner(7, 0)", x.miner(7, 0), 0);
        DUE.is("miner(7, 1)", x.miner(7, 1), 1);
        DUE.is("swaps(7, 0)", x.swaps(7, 0), 5);
        DUE.is("swaps(2, 3), of one PAIR", x.swaps(2, 3), 3);
        DUE.is("swaps(7, 7)", x.swaps(7, 7), -1);
        DUE.is("swaps(0, 0)", x.swaps(0, 0), -1);
        DUE.is("swaps(8, 0)", x.swaps(8, 0), -1);
        DUE.is("swaps(0, 8)", x.swaps(0, 8), -1);
        DUE.is("swaps(-1, 0)", x.swaps(-1, 0), -1);
        DUE.is("swaps(0, -1)", x.swaps(0, -1), -1);
        DUE.is("count(11)", x.count(11), 6);
    }

    private static void turnAnswers() {
        DUE.by("Promise 11", "KIND, FIGURE become others: 10 times the KIND and the FIGURE it had. -1; -2; -4; -6 9.");
        LampOfTheSilent x = mine("pm0o9;pd0d0;pd0d0;pd0d0;");
        DUE.is("turn(0, 5, 9) of m and 0", x.turn(0, 5, 9), 0);
        DUE.is("turn(0, 0, 0) of o and 9", x.turn(0, 0, 0), 59);
        DUE.is("turn(1, 5, 9) of o and 9", x.turn(1, 5, 9), 59);
        DUE.is("turn(7, 4, 1) of d and 0", x.turn(7, 4, 1), 30);
        DUE.is("turn(0, 6, 0)", x.turn(0, 6, 0), -2);
        DUE.is("turn(0, -1, 0)", x.turn(0, -1, 0), -2);
        DUE.is("turn(0, 0, 10)", x.turn(0, 0, 10), -6);
        DUE.is("turn(0, 0, -1)", x.turn(0, 0, -1), -4);
        DUE.is("turn(8, 6, 10)", x.turn(8, 6, 10), -1);
        DUE.is("turn(0, 6, 10)", x.turn(0, 6, 10), -2);
        DUE.is("miner(0, 0)", x.miner(0, 0), 0);
        DUE.is("miner(0, 1)", x.miner(0, 1), 0);
        DUE.is("miner(7, 0)", x.miner(7, 0), 4);
    }

    private static void minutesAnswer() {
        DUE.by("Promise 12", "n MINUTES (1 .. 60) go by: how many are AT the FACE.");
        DUE.is("minutes(60) of nobody", new LampOfTheSilent().minutes(60), 0);
        DUE.is("minutes(1) of nobody", new LampOfTheSilent().minutes(1), 0);
        LampOfTheSilent x = mine("pd0d0;pm0m0;pt0t0;pd0d0;a303;");
        DUE.is("minutes(5)", x.minutes(5), 0);
        DUE.is("minutes(1)", x.minutes(1), 1);
        DUE.is("minutes(1)", x.minutes(1), 2);
        DUE.is("minutes(3)", x.minutes(3), 3);
        DUE.is("minutes(8)", x.minutes(8), 3);
        DUE.is("minutes(1)", x.minutes(1), 4);
        DUE.is("minutes(60)", x.minutes(60), 4);
        DUE.is("count(1)", x.count(1), 79);
        DUE.is("minutes(0)", x.minutes(0), -4);
        DUE.is("minutes(61)", x.minutes(61), -6);
        DUE.is("count(1) still", x.count(1), 79);
    }

    private static void minutesToTheLast() {
        DUE.by("Promise 12", "-6 (60; MINUTE above 999).");
        LampOfTheSilent x = mine(TO_MINUTE_999.substring(0, 60));
        DUE.is("count(1)", x.count(1), 900);
        DUE.is("minutes(40) to 940", x.minutes(40), 0);
        DUE.is("minutes(60) to 1000", x.minutes(60), -6);
        DUE.is("minutes(61)", x.minutes(61), -6);
        DUE.is("count(1): none of them went by", x.count(1), 940);
        DUE.is("minutes(59) to 999", x.minutes(59), 0);
        DUE.is("minutes(1) to 1000", x.minutes(1), -6);
        DUE.is("minutes(0) at 999", x.minutes(0), -4);
        DUE.is("count(1)", x.count(1), 999);
        LampOfTheSilent y = mine(TO_MINUTE_999.substring(0, 60));
        y.minutes(39);
        DUE.is("minutes(60) to 999", y.minutes(60), 0);
        DUE.is("count(1)", y.count(1), 999);
    }

    private static void imageOfNothing() {
        DUE.by("Promise 35", "THE IMAGE is taken: MINUTE.");
        LampOfTheSilent x = new LampOfTheSilent();
        DUE.is("image() of a new object", x.image(), 0);
        Due.tell(x, "pt1t1;b013;b193;t009;a010;m02;").mine();
        DUE.is("on()", x.on(), 0);
        DUE.is("all is as in a new object", Seen.state(x).equals(Seen.state(new LampOfTheSilent())) ? 1 : 0, 1);
        DUE.is("timber(2)", x.timber(2), 1048575);
        Due.tell(x, "pm0m0;").mine();
        DUE.is("a PAIR that comes anew is in CELL 0", x.pair(0, 0), 0);
        DUE.is("has nothing to say", x.pair(0, 1), 0);
        DUE.is("is sound", x.miner(0, 2) + x.miner(1, 2), 0);
    }

    private static void imageOfAll() {
        DUE.by("THE IMAGE", "all that there is, but it, the ROW, letters, REFUSALS; ON from it all is as then.");
        LampOfTheSilent x = mine("pt1d2;pm3s4;pf5o6;pd7t8;b013;b193;b001;t009;t399;a219;m03;");
        LampOfTheSilent twin = mine("pt1d2;pm3s4;pf5o6;pd7t8;b013;b193;b001;t009;t399;a219;m03;");
        DUE.is("image()", x.image(), 3);
        for (int cell = 0; cell < 20; cell++) {
            x.props(cell, 2);
        }
        for (int m = 0; m < 8; m++) {
            x.turn(m, 5 - m % 6, 9 - m);
        }
        for (int p = 0; p < 4; p++) {
            x.stands(p, 18 - p);
            x.adds(p, 50);
        }
        x.swaps(0, 7);
        x.minutes(60);
        DUE.is("on()", x.on(), 3);
        DUE.is("all is as then", Seen.state(x).equals(Seen.state(twin)) ? 1 : 0, 1);
        DUE.is("minutes(5) then", x.minutes(5), twin.minutes(5));
        DUE.is("all goes on as then", Seen.state(x).equals(Seen.state(twin)) ? 1 : 0, 1);
    }

    private static void imageWithoutIt() {
        DUE.by("THE IMAGE", "all that there is, but it");
        LampOfTheSilent x = mine("pt0d0;m01;");
        x.image();
        x.minutes(1);
        DUE.is("on()", x.on(), 1);
        x.minutes(1);
        DUE.is("on() once more: it is still there", x.on(), 1);
        DUE.is("pair(0, 0)", x.pair(0, 0), 1);
        DUE.is("on() at once", x.on(), 1);
    }

    private static void imageWithoutRow() {
        DUE.by("THE IMAGE", "but it, the ROW");
        LampOfTheSilent x = Due.rowed(new LampOfTheSilent(), 0, 0, 0);
        x.image();
        x.row(2);
        x.on();
        DUE.is("count(6) of a ROW that is longer now", x.count(6), 4);
        DUE.is("judge() of it", x.judge(), 3);
        x.on();
        DUE.is("count(6) of a ROW that is no more", x.count(6), 0);
    }

    private static void imageWithoutLetters() {
        DUE.by("THE IMAGE", "but it, the ROW, letters");
        LampOfTheSilent x = Due.tell(new LampOfTheSilent(), "m0");
        x.image();
        Due.tell(x, "2;");
        x.on();
        DUE.is("count(7) of letters that are more now", x.count(7), 4);
        DUE.is("mine() of them", x.mine(), 1);
        DUE.is("count(1)", x.count(1), 2);
        x.on();
        DUE.is("count(7) of letters that are no more", x.count(7), 0);
        DUE.is("mine() of none", x.mine(), -1000);
    }

    private static void imageWithoutRefusals() {
        DUE.by("THE IMAGE", "but it, the ROW, letters, REFUSALS;");
        LampOfTheSilent x = new LampOfTheSilent();
        x.on();
        x.image();
        x.beams(20);
        x.mean(9);
        x.row(-1);
        x.row(100);
        x.on();
        int[] due = {1, 1, 1, 1, 0, 1};
        for (int k = 0; k < 6; k++) {
            DUE.is("count(" + (11 + k) + ")", x.count(11 + k), due[k]);
        }
    }

    private static void imageTakenAgain() {
        DUE.by("Promise 36", "ON from it: MINUTE.");
        LampOfTheSilent x = mine("pt0d0;m01;");
        DUE.is("image()", x.image(), 1);
        x.minutes(4);
        DUE.is("image() again", x.image(), 5);
        x.minutes(4);
        DUE.is("on() from the latter", x.on(), 5);
        DUE.is("pair(0, 0)", x.pair(0, 0), 5);
    }

    private static void imageAtMinute999() {
        DUE.by("I", "MINUTE (0 .. 999; 0 at first)");
        LampOfTheSilent x = new LampOfTheSilent();
        x.image();
        Due.tell(x, TO_MINUTE_999).mine();
        DUE.is("on() to MINUTE 0", x.on(), 0);
        DUE.is("minutes(60)", x.minutes(60), 0);
        Due.tell(x, "m60;".repeat(15) + "m39;").mine();
        DUE.is("image() at MINUTE 999", x.image(), 999);
        DUE.is("minutes(1)", x.minutes(1), -6);
        DUE.is("on() to MINUTE 999", x.on(), 999);
    }

    private static void onWithoutOne() {
        DUE.by("Promise 36", "-3 there is none.");
        LampOfTheSilent x = mine("pt0d0;m01;");
        DUE.is("on()", x.on(), -3);
        DUE.is("count(13)", x.count(13), 1);
        DUE.is("count(1)", x.count(1), 1);
        DUE.is("pair(0, 0)", x.pair(0, 0), 1);
        x.image();
        DUE.is("on()", x.on(), 1);
        DUE.is("count(13)", x.count(13), 1);
    }

    private static void countOfNothing() {
        DUE.by("Promise 37", "0 PAIRS, 1 MINUTE, 2 who is AT the FACE (bits), 3 all BRUISES, 4 all TO SAY, 5 all BEAMS, 6 in the ROW, 7 letters");
        LampOfTheSilent none = new LampOfTheSilent();
        for (int what = 0; what <= 7; what++) {
            DUE.is("count(" + what + ")", none.count(what), 0);
        }
    }

    private static void countOfAllFull() {
        DUE.by("Promise 37", "2 who is AT the FACE (bits), 3 all BRUISES, 4 all TO SAY, 5 all BEAMS, 6 in the ROW, 7 letters");
        LampOfTheSilent x = mine("pt0t0;pt0t0;pt0t0;pt0t0;t099;t199;t299;t399;a319;", TO_MINUTE_999);
        for (int cell = 0; cell < 20; cell++) {
            x.props(cell, 3);
        }
        for (int n = 0; n < 16; n++) {
            x.row(n);
        }
        Due.tell(x, "m01;".repeat(24));
        // Three of the PAIRS were told all the words on the way: 19 are said, and 80 are left.
        int[] due = {4, 999, 15, 0, 339, 60, 16, 96};
        for (int what = 0; what <= 7; what++) {
            DUE.is("count(" + what + ")", x.count(what), due[what]);
        }
        x.stands(0, 0);
        DUE.is("count(2) without PAIR 0", x.count(2), 14);
        x.stands(3, 18);
        DUE.is("count(2) without PAIR 3", x.count(2), 6);
        DUE.is("count(3) of two in one minute", mine("pt0d0;pt0d0;b013;m01;").count(3), 6);
    }

    private static void countOfAnotherWhat() {
        DUE.by("Promise 37", "-9 for another what.");
        LampOfTheSilent x = new LampOfTheSilent();
        for (int what : new int[] {-1, -9, 8, 9, 10, 17, 18, 99, Integer.MIN_VALUE, Integer.MAX_VALUE}) {
            DUE.is("count(" + what + ")", x.count(what), -9);
        }
        for (int what = 11; what <= 16; what++) {
            DUE.is("count(" + what + ")", x.count(what), 0);
        }
    }

    private static void countOfRefusals() {
        DUE.by("THE IMAGE", "nothing changes but how many there were");
        LampOfTheSilent x = new LampOfTheSilent();
        x.beams(-1);
        DUE.is("count(11) behind one", x.count(11), 1);
        x.beams(-1);
        DUE.is("count(11) behind two", x.count(11), 2);
        x.mean(2);
        DUE.is("count(12)", x.count(12), 1);
        x.on();
        DUE.is("count(13)", x.count(13), 1);
        x.minutes(0);
        DUE.is("count(14)", x.count(14), 1);
        x.minutes(61);
        DUE.is("count(16)", x.count(16), 1);
        DUE.is("count(15): no call answers -5", x.count(15), 0);
        DUE.is("count(11) still", x.count(11), 2);
    }

    private static void eachRefusal() {
        LampOfTheSilent x = mine("pm0m0;");
        DUE.by("THE IMAGE", "-1 NOBODY: no such CELL, PAIR, MINER, one twice.");
        DUE.is("no such CELL", x.beams(20), -1);
        DUE.is("no such PAIR", x.pair(1, 0), -1);
        DUE.is("no such MINER", x.miner(2, 0), -1);
        DUE.is("one twice", x.swaps(1, 1), -1);
        DUE.by("THE IMAGE", "-2 OTHER: what, KIND.");
        DUE.is("what", x.miner(0, 4), -2);
        DUE.is("KIND", x.turn(0, 6, 0), -2);
        DUE.by("THE IMAGE", "-3 STATE: it is not as it must be.");
        DUE.is("no IMAGE", x.on(), -3);
        DUE.by("THE IMAGE", "-4 BELOW: a number below the least.");
        DUE.is("BEAMS", x.props(0, -1), -4);
        DUE.is("MINUTES", x.minutes(0), -4);
        DUE.by("THE IMAGE", "-6 ROOM: a number above the greatest, no room.");
        DUE.is("BEAMS", x.props(0, 4), -6);
        DUE.is("a 97th letter", Due.tell(x, "m01;".repeat(24)).letter('m'), -6);
        DUE.is("a 17th number", Due.rowed(x, 1, 2, 3, 4, 5, 6, 7, 8, 9, 10, 11, 12, 13, 14, 15, 16).row(17), -6);
        int[] due = {4, 2, 1, 2, 0, 3};
        for (int k = 0; k < 6; k++) {
            DUE.is("count(" + (11 + k) + ")", x.count(11 + k), due[k]);
        }
    }

    /** All of them together stand in RefusalsTest. */
    private static void theFirstThatFits() {
        DUE.by("THE IMAGE", "(the call answers the number, the first that fits in the order in which it tells them; nothing changes");
        LampOfTheSilent x = mine("pm0m0;");
        DUE.is("turn(2, 6, -1): -1, -2 and -4", x.turn(2, 6, -1), -1);
        DUE.is("turn(0, 6, -1): -2 and -4", x.turn(0, 6, -1), -2);
        DUE.is("turn(0, 6, 10): -2 and -6", x.turn(0, 6, 10), -2);
        DUE.is("pairThen(0, -1, 2): -4 and -2", x.pairThen(0, -1, 2), -4);
        DUE.is("pairThen(0, 61, 2): -6 and -2", x.pairThen(0, 61, 2), -6);
        DUE.is("cough(0, 8, 1, 0, 0): -4 and -6", x.cough(0, 8, 1, 0, 0), 4000000000000000004L);
        DUE.is("cough(0, 0, 21, 0, 2): -6 and -2", x.cough(0, 0, 21, 0, 2), 4000000000000000006L);
        DUE.is("lots(0, 0, 2): -4 and -2", x.lots(0, 0, 2), -4);
        DUE.is("lots(21, 0, 2): -6 and -2", x.lots(21, 0, 2), -6);
        int[] due = {1, 2, 0, 3, 0, 3};
        for (int k = 0; k < 6; k++) {
            DUE.is("count(" + (11 + k) + "): each call counts once", x.count(11 + k), due[k]);
        }
        LampOfTheSilent twin = mine("pm0m0;");
        DUE.is("nothing else has changed", Seen.areAlike(x, twin) ? 1 : 0, 1);
    }

    private static void fiveHundredAndTwelveCalls() {
        DUE.by("What it is", "An object is used for at most 512 calls after it has been made");
        LampOfTheSilent x = new LampOfTheSilent();
        for (int call = 1; call <= 511; call++) {
            x.beams(20);
        }
        DUE.is("call 512, count(11)", x.count(11), 511);
        LampOfTheSilent y = Due.tell(new LampOfTheSilent(), "pt1d2;pm3s4;pf5o6;pd7t8;t030;");
        y.mine();
        for (int call = 31; call <= 511; call++) {
            y.lots(20, call, 1);
        }
        DUE.is("call 512, minutes(60)", y.minutes(60), 4);
    }
}
