/** Counts the answers that are not as due and prints each; ends with exit code 1 if there was one. */
final class Due {
    private int wrong;
    private int asked;
    private int askedBefore;
    private String sentence = "";

    void is(String call, long got, long want) {
        asked++;
        if (got != want) {
            wrong++;
            System.out.println(sentence + call + " answered " + got + ", due is " + want);
        }
    }

    /** What is asked from here on is due by this sentence of this part of the document. */
    void by(String part, String words) {
        endSentence();
        sentence = part + ": \"" + words + "\": ";
        if (!Document.says(part, words)) {
            wrong++;
            System.out.println(sentence + "the document does not say so");
        }
    }

    private void endSentence() {
        if (!sentence.isEmpty() && asked == askedBefore) {
            wrong++;
            System.out.println(sentence + "nothing was asked");
        }
        askedBefore = asked;
    }

    void end() {
        endSentence();
        System.out.println(wrong == 0 ? asked + " answers are as due" : wrong + " answers are not as due");
        if (wrong != 0) {
            System.exit(1);
        }
    }

    /** Tells a text letter by letter. */
    static LampOfTheSilent tell(LampOfTheSilent x, String text) {
        for (char c : text.toCharArray()) {
            x.letter(c);
        }
        return x;
    }

    /** A new object to which a mine has come. */
    static LampOfTheSilent mineOf(String... texts) {
        LampOfTheSilent x = new LampOfTheSilent();
        for (String text : texts) {
            int answer = tell(x, text).mine();
            if (answer < 1) {
                System.out.println("the mine " + text + " answered " + answer);
                System.exit(1);
            }
        }
        return x;
    }

    static LampOfTheSilent rowed(LampOfTheSilent x, int... numbers) {
        x.clear();
        for (int v : numbers) {
            x.row(v);
        }
        return x;
    }

    /** Minutes go by till MINUTE is so; in steps that end, however the program answers. */
    static LampOfTheSilent atMinute(LampOfTheSilent x, int minute) {
        for (int step = 0; step < 20 && x.count(1) < minute; step++) {
            x.minutes(Math.min(60, minute - x.count(1)));
        }
        return x;
    }

    /** A talker beside a deaf one in CELL 0, who has walked into so many BEAMS; so many more are in CELL 1. */
    static LampOfTheSilent bruised(int bruises, int ahead) {
        return bruise(mineOf("pt0d0;"), bruises, ahead);
    }

    static LampOfTheSilent bruise(LampOfTheSilent x, int bruises, int ahead) {
        for (int step = 0; step < 40 && x.miner(0, 2) < bruises; step++) {
            x.stands(0, 0);
            x.props(1, Math.min(3, bruises - x.miner(0, 2)));
            x.minutes(1);
        }
        x.stands(0, 0);
        x.props(1, ahead);
        return x;
    }
}
