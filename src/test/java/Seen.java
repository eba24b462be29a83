import java.util.ArrayList;
import java.util.List;

/** All that can be seen of an object from outside, so that two of them can be held against each other. */
final class Seen {
    private Seen() {
    }

    /** PAIRS, MINERS, BEAMS, MINUTE, how many numbers of the ROW and letters; asking changes nothing. */
    static List<Long> state(LampOfTheSilent x) {
        List<Long> seen = new ArrayList<>();
        for (int what = 0; what <= 7; what++) {
            seen.add((long) x.count(what));
        }
        for (int cell = 0; cell < 20; cell++) {
            seen.add((long) x.beams(cell));
        }
        int pairs = x.count(0);
        for (int pair = 0; pair < pairs; pair++) {
            seen.add((long) x.pair(pair, 0));
            seen.add((long) x.pair(pair, 1));
        }
        for (int miner = 0; miner < 2 * pairs; miner++) {
            seen.add((long) x.miner(miner, 0));
            seen.add((long) x.miner(miner, 1));
            seen.add((long) x.miner(miner, 2));
        }
        return seen;
    }

    /** How many REFUSALS there were, -1 first. */
    static List<Long> refusals(LampOfTheSilent x) {
        List<Long> seen = new ArrayList<>();
        for (int what = 11; what <= 16; what++) {
            seen.add((long) x.count(what));
        }
        return seen;
    }

    /** What the ROW, the letters and the IMAGE hold: seen by using them up. */
    static List<Long> held(LampOfTheSilent x) {
        List<Long> seen = new ArrayList<>();
        seen.add((long) x.judge());
        seen.add((long) x.mine());
        seen.addAll(state(x));
        seen.add((long) x.on());
        seen.addAll(state(x));
        return seen;
    }

    /** The objects, alike but for what was done to one of them, are alike in all but REFUSALS. */
    static boolean areAlike(LampOfTheSilent one, LampOfTheSilent other) {
        return state(one).equals(state(other)) && held(one).equals(held(other));
    }
}
