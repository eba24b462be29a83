/** Counts the answers that are not as due and prints each; ends with exit code 1 if there was one. */
final class Due {
    private int wrong;
    private int asked;

    void is(String call, long got, long want) {
        asked++;
        if (got != want) {
            wrong++;
            System.out.println(call + " answered " + got + ", due is " + want);
        }
    }

    void end() {
        System.out.println(wrong == 0 ? asked + " answers are as due" : wrong + " answers are not as due");
        if (wrong != 0) {
            System.exit(1);
        }
    }

    /** Tells a text letter by letter. */
    static LampOfTheSilent tell(LampOfTheSilent x, String text) {
        for (char c : text.toCharArray()) {
            x.letter(c);
        }
        return x;
    }

    /** A new object to which a mine has come. */
    static LampOfTheSilent mineOf(String... texts) {
        LampOfTheSilent x = new LampOfTheSilent();
        for (String text : texts) {
            int answer = tell(x, text).mine();
            if (answer < 1) {
                System.out.println("the mine " + text + " answered " + answer);
                System.exit(1);
            }
        }
        return x;
    }

    static LampOfTheSilent rowed(LampOfTheSilent x, int... numbers) {
        x.clear();
        for (int v : numbers) {
            x.row(v);
        }
        return x;
    }
}
