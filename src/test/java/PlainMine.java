import java.math.BigInteger;
import java.util.ArrayList;
import java.util.List;

/**
 * The document once more, as plainly as it can be told: objects of kinds, a copy for every thought, all ways tried.
 * ModelTest holds the program against it. It answers only what is not refused.
 */
final class PlainMine {
    static final int FACE = 19;

    abstract static class Rule {
        abstract boolean wants(int toSay, int ahead, int minute, int figure);

        abstract int goes();
    }

    static class Miner extends Rule {
        boolean wants(int toSay, int ahead, int minute, int figure) {
            return toSay > 0;
        }

        int goes() {
            return 2;
        }
    }

    static class Shy extends Miner {
        @Override
        boolean wants(int toSay, int ahead, int minute, int figure) {
            return super.wants(toSay, ahead, minute, figure) && ahead == 0;
        }
    }

    static class Talker extends Miner {
        @Override
        boolean wants(int toSay, int ahead, int minute, int figure) {
            return true;
        }

        @Override
        int goes() {
            return super.goes() - 1;
        }
    }

    static class Deaf extends Shy {
        @Override
        boolean wants(int toSay, int ahead, int minute, int figure) {
            return false;
        }

        @Override
        int goes() {
            return super.goes() + 1;
        }
    }

    static class Father extends Talker {
        @Override
        boolean wants(int toSay, int ahead, int minute, int figure) {
            return minute % 2 == 0;
        }
    }

    static class Overseer extends Talker {
        @Override
        boolean wants(int toSay, int ahead, int minute, int figure) {
            return super.wants(toSay, ahead, minute, figure) && minute % (3 + figure) != 0;
        }

        @Override
        int goes() {
            return super.goes() + 1;
        }
    }

    static final Rule[] RULES = {new Miner(), new Shy(), new Talker(), new Deaf(), new Father(), new Overseer()};

    static final class Man {
        int kind;
        int figure;
        int bruises;

        Man(int kind, int figure, int bruises) {
            this.kind = kind;
            this.figure = figure;
            this.bruises = bruises;
        }

        Rule rule() {
            return RULES[kind];
        }
    }

    static final class Pair {
        final Man[] men = new Man[2];
        int cell;
        int toSay;
    }

    final int[] beams = new int[20];
    final List<Pair> pairs = new ArrayList<>();
    int minute;

    PlainMine copy() {
        PlainMine other = new PlainMine();
        System.arraycopy(beams, 0, other.beams, 0, 20);
        other.minute = minute;
        for (Pair pair : pairs) {
            Pair twin = new Pair();
            twin.cell = pair.cell;
            twin.toSay = pair.toSay;
            for (int i = 0; i < 2; i++) {
                twin.men[i] = new Man(pair.men[i].kind, pair.men[i].figure, pair.men[i].bruises);
            }
            other.pairs.add(twin);
        }
        return other;
    }

    Man man(int miner) {
        return pairs.get(miner / 2).men[miner % 2];
    }

    void change(int one, int other) {
        Man kept = man(one);
        pairs.get(one / 2).men[one % 2] = man(other);
        pairs.get(other / 2).men[other % 2] = kept;
    }

    boolean wants(int miner, int when) {
        Pair pair = pairs.get(miner / 2);
        Man man = man(miner);
        return pair.cell != FACE && man.rule().wants(pair.toSay, beams[pair.cell + 1], when, man.figure);
    }

    int speaker(int p, int when) {
        return wants(2 * p, when) ? 0 : wants(2 * p + 1, when) ? 1 : -9;
    }

    void go(int p, int speaker) {
        Pair pair = pairs.get(p);
        if (pair.cell == FACE) {
            return;
        }
        if (speaker < 0) {
            pair.cell = Math.min(FACE, pair.cell + pair.men[0].rule().goes());
            return;
        }
        pair.toSay = Math.max(0, pair.toSay - 1);
        pair.cell++;
        pair.men[speaker].bruises = Math.min(99, pair.men[speaker].bruises + beams[pair.cell]);
    }

    void pass() {
        minute++;
        for (int p = 0; p < pairs.size(); p++) {
            go(p, speaker(p, minute));
        }
    }

    PlainMine then(int n) {
        PlainMine mind = copy();
        for (int i = 0; i < n; i++) {
            mind.pass();
        }
        return mind;
    }

    int bruises() {
        int sum = 0;
        for (Pair pair : pairs) {
            sum += pair.men[0].bruises + pair.men[1].bruises;
        }
        return sum;
    }

    int faces() {
        int sum = 0;
        for (Pair pair : pairs) {
            sum += pair.cell == FACE ? 1 : 0;
        }
        return sum;
    }

    /** Behind how many minutes, at 60 the most; 1000 for never. */
    int faced(int p) {
        for (int n = 0; n <= 60; n++) {
            if (then(n).pairs.get(p).cell == FACE) {
                return n;
            }
        }
        return 1000;
    }

    int allFaced() {
        for (int n = 0; n <= 60; n++) {
            if (then(n).faces() == pairs.size()) {
                return n;
            }
        }
        return 1000;
    }

    static int orNone(int n) {
        return n == 1000 ? -9 : n;
    }

    int first() {
        int best = -9;
        for (int p = pairs.size() - 1; p >= 0; p--) {
            if (faced(p) < 1000 && (best < 0 || faced(p) <= faced(best))) {
                best = p;
            }
        }
        return best;
    }

    int done(int p) {
        for (int n = 0; n <= 60; n++) {
            if (then(n).pairs.get(p).toSay == 0) {
                return n;
            }
        }
        return -9;
    }

    int hurt(int miner, int v) {
        for (int n = 0; n <= 60; n++) {
            if (then(n).man(miner).bruises >= v) {
                return n;
            }
        }
        return -9;
    }

    int begins(int p) {
        for (int n = 0; n <= 60; n++) {
            for (int v = 20; v >= 0; v--) {
                PlainMine mind = copy();
                mind.pairs.get(p).toSay = v;
                Pair pair = mind.then(n).pairs.get(p);
                if (pair.cell == FACE && pair.toSay == 0) {
                    return v;
                }
            }
        }
        return -9;
    }

    int clears(int n) {
        int best = -9;
        int least = then(n).bruises();
        for (int c = 0; c < 20; c++) {
            PlainMine mind = copy();
            mind.beams[c] = 0;
            int sum = mind.then(n).bruises();
            if (sum < least) {
                least = sum;
                best = c;
            }
        }
        return best;
    }

    int changes() {
        int best = -9;
        int soonest = allFaced();
        for (int one = 0; one < 2 * pairs.size(); one++) {
            for (int other = one + 1; other < 2 * pairs.size(); other++) {
                if (one / 2 == other / 2) {
                    continue;
                }
                PlainMine mind = copy();
                mind.change(one, other);
                if (mind.allFaced() < soonest) {
                    soonest = mind.allFaced();
                    best = 10 * one + other;
                }
            }
        }
        return best;
    }

    int bestKind(int miner, int what) {
        int best = -9;
        int soonest = 1000;
        for (int kind = 0; kind < 6; kind++) {
            PlainMine mind = copy();
            mind.man(miner).kind = kind;
            if (mind.faced(miner / 2) < soonest) {
                soonest = mind.faced(miner / 2);
                best = kind;
            }
        }
        return what == 0 ? best : orNone(soonest);
    }

    int bestCell(int p, int what) {
        int best = -9;
        int least = 1000;
        for (int c = 0; c < 20; c++) {
            PlainMine mind = copy();
            mind.pairs.get(p).cell = c;
            int walked = 0;
            for (int n = 0; n < 60 && mind.pairs.get(p).cell < FACE; n++) {
                // Nobody is hurt before a minute, so that what hurts them is what they walk into.
                for (Man man : mind.pairs.get(p).men) {
                    man.bruises = 0;
                }
                mind.pass();
                walked += mind.pairs.get(p).men[0].bruises + mind.pairs.get(p).men[1].bruises;
            }
            if (mind.pairs.get(p).cell == FACE && walked < least) {
                least = walked;
                best = c;
            }
        }
        return what == 0 ? best : orNone(least);
    }

    int hum(int p, int n) {
        return orNone(hum(pairs.get(p).cell, pairs.get(p).men[0].rule().goes(), n));
    }

    private int hum(int cell, int goes, int n) {
        if (cell >= FACE) {
            return 0;
        }
        if (n == 0) {
            return 1000;
        }
        int spoken = Math.min(1000, beams[cell + 1] + hum(cell + 1, goes, n - 1));
        return Math.min(spoken, hum(cell + goes, goes, n - 1));
    }

    int two(int p, int n) {
        int[][] prices = new int[4][];
        for (int way = 0; way < 4; way++) {
            PlainMine mind = copy();
            for (int i = 0; i < n; i++) {
                mind.go(p, way >= 2 ? 0 : way == 1 ? 1 : -9);
            }
            Pair pair = mind.pairs.get(p);
            int less = pair.toSay == 0 ? 3 : 0;
            prices[way] = new int[] {pair.men[0].bruises - less, pair.men[1].bruises - less};
        }
        for (int way = 0; way < 4; way++) {
            if (prices[way][0] <= prices[way ^ 2][0] && prices[way][1] <= prices[way ^ 1][1]) {
                return way / 2 * 10 + way % 2;
            }
        }
        return -9;
    }

    long cough(int p, int n, int t, int v, int part) {
        BigInteger above = coughs(p, n, t, v);
        BigInteger below = BigInteger.valueOf(t).pow(n);
        BigInteger shared = above.gcd(below);
        return (part == 0 ? above : below).divide(shared).longValueExact();
    }

    private BigInteger coughs(int p, int n, int t, int v) {
        if (n == 0) {
            return pairs.get(p).cell >= v ? BigInteger.ONE : BigInteger.ZERO;
        }
        PlainMine coughed = copy();
        coughed.minute++;
        coughed.go(p, 1);
        BigInteger rest = then(1).coughs(p, n - 1, t, v);
        return coughed.coughs(p, n - 1, t, v).add(rest.multiply(BigInteger.valueOf(t - 1)));
    }

    long mean(int part) {
        BigInteger above = BigInteger.valueOf(bruises());
        BigInteger below = BigInteger.valueOf(pairs.isEmpty() ? 1 : 2 * pairs.size());
        return (part == 0 ? above : below).divide(above.gcd(below)).longValueExact();
    }

    int whatIs(int miner, int what, List<Integer> row) {
        int bits = 0;
        for (int other = 0; other < (what == 0 ? 6 : 10); other++) {
            PlainMine mind = copy();
            if (what == 0) {
                mind.man(miner).kind = other;
            } else {
                mind.man(miner).figure = other;
            }
            boolean so = true;
            for (int n = 0; n < row.size(); n++) {
                so &= mind.then(n).pairs.get(miner / 2).cell == row.get(n);
            }
            bits |= so ? 1 << other : 0;
        }
        return bits;
    }

    int judge(List<Integer> row) {
        for (int c = 0; c < row.size(); c++) {
            if (beams[c] != row.get(c)) {
                return c;
            }
        }
        return -9;
    }

    int lots(int n, int z, int what) {
        int seed = z;
        int answer = 0;
        for (int i = 0; i < n; i++) {
            PlainMine mind = copy();
            for (Pair pair : mind.pairs) {
                seed = seed * 1664525 + 1013904223;
                pair.cell = (int) ((seed & 0x7fffffffL) / 256 % 20);
                seed = seed * 1664525 + 1013904223;
                pair.toSay = (int) ((seed & 0x7fffffffL) / 256 % 12);
            }
            PlainMine end = mind.then(10);
            answer += what == 0 ? end.faces() : end.bruises() - bruises();
        }
        return answer;
    }
}
