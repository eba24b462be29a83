import java.util.List;

/** The boundary cases of a MINE that is told in letters, and of promises 1 to 3; sentence by sentence. */
public final class MineEdgesTest {
    private static final Due DUE = new Due();
    private static final String PAIR = "pm0m0;";

    public static void main(String[] args) {
        newObject();
        ninetySixLetters();
        lettersOfAllNumbers();
        beams();
        pairs();
        kindsAndFigures();
        places();
        toSay();
        changes();
        minutes();
        minuteAbove999();
        semicolons();
        atLeastOne();
        placeOfKindOne();
        theEnd();
        kindOneIsFirst();
        placeOfKindTwo();
        behindAllAhead();
        allOfItOrNothing();
        lettersAreNoMore();
        howManyStatements();
        DUE.end();
    }

    private static int mine(String text) {
        return Due.tell(new LampOfTheSilent(), text).mine();
    }

    private static void due(String text, int want) {
        DUE.is("mine() of \"" + text + "\"", mine(text), want);
    }

    private static void newObject() {
        DUE.by("Promise 1", "No BEAMS, no PAIRS, MINUTE 0.");
        LampOfTheSilent x = new LampOfTheSilent();
        for (int what = 0; what <= 7; what++) {
            DUE.is("count(" + what + ")", x.count(what), 0);
        }
        for (int what = 11; what <= 16; what++) {
            DUE.is("count(" + what + ")", x.count(what), 0);
        }
        DUE.is("timber(2)", x.timber(2), 1048575);
        DUE.is("pair(0, 0)", x.pair(0, 0), -1);
        DUE.is("on()", x.on(), -3);
        LampOfTheSilent other = Due.mineOf("b003;", PAIR, "m09;");
        DUE.is("another one is none the less new", new LampOfTheSilent().count(0), 0);
        DUE.is("the first is still as it was", other.count(0), 1);
    }

    private static void ninetySixLetters() {
        DUE.by("I", "A MINE is told in letters, one by one (96 at most)");
        LampOfTheSilent x = new LampOfTheSilent();
        for (int n = 1; n <= 96; n++) {
            DUE.is("letter " + n, x.letter("m01;".charAt((n - 1) % 4)), n);
        }
        DUE.is("letter 97", x.letter('m'), -6);
        DUE.is("count(7)", x.count(7), 96);
        DUE.is("mine() of 96", x.mine(), 24);
        DUE.is("count(1)", x.count(1), 24);
        DUE.is("the first letter anew", x.letter('m'), 1);
        DUE.by("Promise 2", "-4; -6 (255; 96, too).");
        LampOfTheSilent y = Due.tell(new LampOfTheSilent(), "m01;".repeat(24));
        DUE.is("letter(-1) when there are 96", y.letter(-1), -4);
        DUE.is("letter(256) when there are 96", y.letter(256), -6);
        DUE.is("letter(0) when there are 96", y.letter(0), -6);
        LampOfTheSilent z = Due.tell(new LampOfTheSilent(), "m01;".repeat(24).substring(1));
        DUE.is("letter(256) when there are 95", z.letter(256), -6);
        DUE.is("letter(59) when there are 95", z.letter(59), 96);
    }

    private static void lettersOfAllNumbers() {
        DUE.by("Promise 2", "A letter (0 .. 255) comes: how many there are.");
        for (int c : new int[] {0, 1, 127, 128, 254, 255}) {
            DUE.is("letter(" + c + ")", new LampOfTheSilent().letter(c), 1);
        }
        DUE.is("letter(-1)", new LampOfTheSilent().letter(-1), -4);
        DUE.is("letter(256)", new LampOfTheSilent().letter(256), -6);
        DUE.is("letter(98 + 256): it is no \"b\"", new LampOfTheSilent().letter(98 + 256), -6);
        for (int c = 0; c <= 255; c++) {
            LampOfTheSilent x = new LampOfTheSilent();
            x.letter(c);
            boolean begins = "bpatxm".indexOf(c) >= 0;
            DUE.is("mine() of the letter " + c, x.mine(), begins ? -1001 : -1000);
        }
    }

    private static void beams() {
        DUE.by("I", "\"b\" a CELL (2 digits), BEAMS (a digit);");
        due("b000;", 1);
        due("b003;", 1);
        due("b193;", 1);
        due("b004;", -2000);
        due("b009;", -2000);
        due("b200;", -2000);
        due("b990;", -2000);
        LampOfTheSilent x = Due.mineOf("b003;b191;b102;b110;");
        DUE.is("beams(0)", x.beams(0), 3);
        DUE.is("beams(19)", x.beams(19), 1);
        DUE.is("beams(10)", x.beams(10), 2);
        DUE.is("beams(11)", x.beams(11), 0);
        DUE.is("beams(1)", x.beams(1), 0);
        Due.tell(x, "b000;").mine();
        DUE.is("beams(0) none again", x.beams(0), 0);
        due("b0", -1002);
        due("b:00;", -1001);
        due("b/00;", -1001);
        due("b0a0;", -1002);
        due("b00;", -1003);
    }

    private static void pairs() {
        DUE.by("I", "\"p\" a letter of a KIND, FIGURE (a digit), a letter of a KIND, FIGURE (a digit): a PAIR more;");
        due(PAIR, 1);
        due(PAIR.repeat(4), 4);
        due(PAIR.repeat(5), -2024);
        LampOfTheSilent x = Due.mineOf(PAIR.repeat(3));
        DUE.is("the last for which there is room, and one more", Due.tell(x, PAIR + PAIR).mine(), -2006);
        DUE.is("count(0)", x.count(0), 3);
        DUE.is("the last for which there is room", Due.tell(x, PAIR).mine(), 1);
        DUE.is("one more", Due.tell(x, PAIR).mine(), -2000);
        DUE.is("count(0)", x.count(0), 4);
    }

    private static void kindsAndFigures() {
        DUE.by("Promise 4", "0 KIND (0 m, 1 s, 2 t, 3 d, 4 f, 5 o), 1 FIGURE");
        String kinds = "mstdfo";
        for (int k = 0; k < 6; k++) {
            LampOfTheSilent x = Due.mineOf("p" + kinds.charAt(k) + "0m9;pm9" + kinds.charAt(k) + "0;");
            DUE.is("miner(0, 0) of " + kinds.charAt(k), x.miner(0, 0), k);
            DUE.is("miner(0, 1) of " + kinds.charAt(k), x.miner(0, 1), 0);
            DUE.is("miner(1, 1) of " + kinds.charAt(k), x.miner(1, 1), 9);
            DUE.is("miner(3, 0) of " + kinds.charAt(k), x.miner(3, 0), k);
            DUE.is("miner(2, 1) of " + kinds.charAt(k), x.miner(2, 1), 9);
        }
        for (int c = 0; c <= 255; c++) {
            LampOfTheSilent x = Due.tell(new LampOfTheSilent(), "p");
            x.letter(c);
            DUE.is("mine() of \"p\" and " + c, x.mine(), kinds.indexOf(c) >= 0 ? -1002 : -1001);
            LampOfTheSilent y = Due.tell(new LampOfTheSilent(), "pm0");
            y.letter(c);
            DUE.is("mine() of \"pm0\" and " + c, y.mine(), kinds.indexOf(c) >= 0 ? -1004 : -1003);
        }
    }

    private static void places() {
        DUE.by("I", "\"a\" a PAIR (a digit), a CELL (2 digits): they are there;");
        due("a000;", -2000);
        due(PAIR + "a000;", 2);
        due(PAIR + "a019;", 2);
        due(PAIR + "a020;", -2006);
        due(PAIR + "a100;", -2006);
        due(PAIR.repeat(4) + "a319;", 5);
        due(PAIR.repeat(4) + "a400;", -2024);
        due(PAIR.repeat(4) + "a900;", -2024);
        LampOfTheSilent x = Due.mineOf(PAIR.repeat(4) + "a319;a001;");
        int[] cells = {1, 0, 0, 19};
        for (int p = 0; p < 4; p++) {
            DUE.is("pair(" + p + ", 0)", x.pair(p, 0), cells[p]);
        }
    }

    private static void toSay() {
        DUE.by("I", "\"t\" a PAIR (a digit), TO SAY (2 digits): so much more (99 at most);");
        due("t000;", -2000);
        due(PAIR + "t000;", 2);
        due(PAIR + "t099;", 2);
        due(PAIR + "t199;", -2006);
        due(PAIR.repeat(4) + "t399;", 5);
        due(PAIR.repeat(4) + "t400;", -2024);
        LampOfTheSilent x = Due.mineOf(PAIR.repeat(4) + "t000;t198;t101;t299;t299;t350;t350;");
        int[] words = {0, 99, 99, 99};
        for (int p = 0; p < 4; p++) {
            DUE.is("pair(" + p + ", 1)", x.pair(p, 1), words[p]);
        }
        DUE.is("count(4)", x.count(4), 297);
    }

    private static void changes() {
        DUE.by("I", "\"x\" two MINERS (a digit each): they change places (KIND, FIGURE, BRUISES go with them);");
        due("x01;", -2000);
        due(PAIR + "x01;", 2);
        due(PAIR + "x10;", 2);
        due(PAIR + "x00;", -2006);
        due(PAIR + "x11;", -2006);
        due(PAIR + "x02;", -2006);
        due(PAIR + "x20;", -2006);
        due(PAIR.repeat(4) + "x07;x70;x67;", 7);
        due(PAIR.repeat(4) + "x77;", -2024);
        due(PAIR.repeat(4) + "x08;", -2024);
        due(PAIR.repeat(4) + "x80;", -2024);
        due(PAIR.repeat(4) + "x89;", -2024);
        // The shy one says a word on the way to CELL 6; then he changes PAIRS, and the PAIRS stay where they are.
        LampOfTheSilent x = Due.mineOf("ps1t2;b013;a005;t004;", "pm0m0;m01;x03;");
        DUE.is("miner(3, 0)", x.miner(3, 0), 1);
        DUE.is("miner(3, 1)", x.miner(3, 1), 1);
        DUE.is("miner(0, 0)", x.miner(0, 0), 0);
        DUE.is("pair(0, 0)", x.pair(0, 0), 6);
        DUE.is("pair(0, 1)", x.pair(0, 1), 3);
        DUE.is("pair(1, 0)", x.pair(1, 0), 2);
    }

    private static void minutes() {
        DUE.by("I", "\"m\" MINUTES (2 digits, 1 .. 60): they go by.");
        due("m00;", -2000);
        due("m01;", 1);
        due("m60;", 1);
        due("m61;", -2000);
        due("m99;", -2000);
        DUE.is("count(1) of m01", Due.mineOf("m01;").count(1), 1);
        DUE.is("count(1) of m60", Due.mineOf("m60;").count(1), 60);
        DUE.is("pair(0, 0) of m60", Due.mineOf("pt0d0;m60;").pair(0, 0), 19);
        DUE.is("pair(0, 0) of m18", Due.mineOf("pt0d0;m18;").pair(0, 0), 18);
    }

    private static void minuteAbove999() {
        DUE.by("I", "MINUTE above 999");
        LampOfTheSilent x = Due.mineOf("m60;".repeat(16));
        DUE.is("40 more than 960", Due.tell(x, "m40;").mine(), -2000);
        DUE.is("39 more than 960", Due.tell(x, "m39;").mine(), 1);
        DUE.is("count(1)", x.count(1), 999);
        DUE.is("1 more than 999", Due.tell(x, "m01;").mine(), -2000);
        due("m60;".repeat(16) + "m39;", 17);
        due("m60;".repeat(16) + "m40;", -2064);
        due("m60;".repeat(17), -2064);
        due("m60;".repeat(16) + "m39;m01;", -2068);
        due("m60;".repeat(16) + "b000;m39;", 18);
        due("m60;".repeat(16) + "b000;m40;", -2069);
        due("m60;".repeat(16) + "m39;b000;m01;", -2073);
    }

    private static void semicolons() {
        DUE.by("I", "STATEMENTS, each with \";\" behind");
        for (String text : List.of("b000", "a000", "t000", "x01", "m01", "pm0m0")) {
            due(text, -1000 - text.length());
            due(text + ":", -1000 - text.length());
            due(text + "<", -1000 - text.length());
            due(text + "0;", -1000 - text.length());
            due(text + ";;", -1000 - text.length() - 1);
            due(text + "; ", -1000 - text.length() - 1);
        }
    }

    private static void atLeastOne() {
        DUE.by("I", "At least one STATEMENT.");
        due("", -1000);
        due(";", -1000);
        LampOfTheSilent x = Due.mineOf("m01;");
        DUE.is("mine() once more", x.mine(), -1000);
        due("m01;", 1);
    }

    private static void placeOfKindOne() {
        DUE.by("I", "FAULT: kind 1 the place of the first letter with which no MINE can go on");
        due("q", -1000);
        due("m01;q", -1004);
        due("mq", -1001);
        due("m0q", -1002);
        due("m01q", -1003);
        due("qq", -1000);
        due("m01;".repeat(23) + "m01q", -1095);
        due("m01;".repeat(23) + "q01;", -1092);
        // Digits are "0" .. "9", and no sign next to them.
        for (String sign : List.of("/", ":")) {
            for (String[] text : new String[][] {{"b", "00;"}, {"b0", "0;"}, {"b00", ";"}, {"pm", "m0;"}, {"pm0m", ";"},
                {"a", "00;"}, {"a0", "0;"}, {"a00", ";"}, {"t", "00;"}, {"t0", "0;"}, {"t00", ";"}, {"x", "1;"},
                {"x0", ";"}, {"m", "1;"}, {"m0", ";"}}) {
                due(text[0] + sign + text[1], -1000 - text[0].length());
            }
        }
    }

    private static void theEnd() {
        DUE.by("I", "(the end, if something lacks): -1000 less the place;");
        for (String text : List.of("b003;", "pm0t9;", "a000;", "t000;", "x01;", "m01;")) {
            for (int n = 0; n < text.length(); n++) {
                due(text.substring(0, n), -1000 - n);
                due(PAIR + text.substring(0, n), n == 0 ? 1 : -1006 - n);
            }
        }
        due("m01;".repeat(23) + "m01", -1095);
        due("m01;".repeat(22) + "b000;" + "m01", -1096);
    }

    private static void kindOneIsFirst() {
        DUE.by("I", "else kind 2");
        due("b990;q", -1005);
        due("b990;b00", -1008);
        due("b004;" + PAIR + "x00;m", -1016);
        due("x00;;", -1004);
    }

    private static void placeOfKindTwo() {
        DUE.by("I", "kind 2 the place of the first letter of the first STATEMENT that");
        due("b200;", -2000);
        due("m01;b200;", -2004);
        due("m01;b004;b200;", -2004);
        due(PAIR + "m01;t100;m00;", -2010);
        due("m01;".repeat(23) + "m00;", -2092);
        DUE.by("I", "(a number out of range, no such PAIR, MINER so far, one MINER twice, MINUTE above 999, no room for more)");
        due("b004;", -2000);
        due("a000;", -2000);
        due("t000;", -2000);
        due("x01;", -2000);
        due(PAIR + "x00;", -2006);
        due("m60;".repeat(17), -2064);
        due(PAIR.repeat(5), -2024);
    }

    private static void behindAllAhead() {
        DUE.by("I", "behind all ahead of it in the text");
        due(PAIR + "a000;", 2);
        due("a000;" + PAIR, -2000);
        due(PAIR + PAIR + "x23;", 3);
        due(PAIR + "x23;" + PAIR, -2006);
        due(PAIR + "t100;" + PAIR, -2006);
        LampOfTheSilent x = Due.mineOf(PAIR);
        DUE.is("a PAIR of before", Due.tell(x, "a019;").mine(), 1);
        DUE.is("a PAIR of before and one more", Due.tell(x, PAIR + "a119;x03;").mine(), 3);
        LampOfTheSilent y = Due.mineOf("m60;".repeat(16), "m38;");
        DUE.is("MINUTES of before", Due.tell(y, "m01;m01;").mine(), -2004);
        DUE.is("count(1)", y.count(1), 998);
    }

    private static void allOfItOrNothing() {
        DUE.by("I", "Without FAULT all of it comes, with one nothing.");
        for (String fault : List.of("q", "b004;", "m00;", "x00;", "b00", PAIR.repeat(4))) {
            LampOfTheSilent x = Due.mineOf("ps1o2;b053;t009;a002;");
            LampOfTheSilent twin = Due.mineOf("ps1o2;b053;t009;a002;");
            DUE.is("mine() is a FAULT", Due.tell(x, "b051;t050;a019;x01;pt1t1;m09;" + fault).mine() <= -1000 ? 1 : 0, 1);
            DUE.is("nothing comes behind " + fault, Seen.areAlike(x, twin) ? 1 : 0, 1);
        }
        LampOfTheSilent y = Due.mineOf("b051;pt1d1;t050;a017;x01;x01;m01;b060;");
        DUE.is("beams(5)", y.beams(5), 1);
        DUE.is("pair(0, 0)", y.pair(0, 0), 18);
        DUE.is("pair(0, 1)", y.pair(0, 1), 49);
        DUE.is("miner(0, 0)", y.miner(0, 0), 2);
        DUE.is("count(1)", y.count(1), 1);
    }

    private static void lettersAreNoMore() {
        DUE.by("Promise 3", "The letters become a MINE, and are no more (with a FAULT neither)");
        for (String text : List.of("m01;", "q", "b004;", "m0")) {
            LampOfTheSilent x = Due.tell(new LampOfTheSilent(), text);
            x.mine();
            DUE.is("count(7) behind " + text, x.count(7), 0);
            DUE.is("mine() behind " + text, x.mine(), -1000);
            DUE.is("a letter behind " + text, x.letter('m'), 1);
        }
    }

    private static void howManyStatements() {
        DUE.by("Promise 3", "how many STATEMENTS; the FAULT (nothing is counted).");
        due("m01;", 1);
        due("m01;m01;", 2);
        due(PAIR.repeat(4) + "x01;".repeat(18), 22);
        due("m01;".repeat(24), 24);
        LampOfTheSilent x = new LampOfTheSilent();
        x.mine();
        Due.tell(x, "b004;").mine();
        Due.tell(x, "m").mine();
        for (int what = 11; what <= 16; what++) {
            DUE.is("count(" + what + ")", x.count(what), 0);
        }
    }
}
