import java.util.ArrayList;
import java.util.List;
import java.util.Random;

/**
 * Many random runs, each call's answer and all the state behind it held against PlainMine. A run stays under the 512
 * calls for which an object is used.
 */
public final class ModelTest {
    private static final int RUNS = 1500;
    private static final String KINDS = "mstdfo";
    private static final Due DUE = new Due();

    private final Random random;
    private final int run;
    private final LampOfTheSilent x = new LampOfTheSilent();
    private PlainMine plain = new PlainMine();
    private PlainMine image;
    private final List<Integer> row = new ArrayList<>();

    private ModelTest(int run) {
        this.run = run;
        random = new Random(run);
    }

    public static void main(String[] args) {
        for (int run = 0; run < RUNS; run++) {
            new ModelTest(run).go();
        }
        DUE.end();
    }

    private void due(String call, long got, long want) {
        DUE.is("run " + run + ": " + call, got, want);
    }

    private int below(int n) {
        return random.nextInt(n);
    }

    private void go() {
        int pairs = run % 5;
        for (int i = 0; i < pairs; i++) {
            tellPair();
        }
        if (run % 7 == 0) {
            bruiseAll();
        }
        for (int i = 0; i < 9; i++) {
            changeSomething();
        }
        allStateIsSo();
        askOfAll();
        askOfEach();
        countsAreSo();
    }

    private void tellPair() {
        StringBuilder text = new StringBuilder("p");
        PlainMine.Pair pair = new PlainMine.Pair();
        for (int i = 0; i < 2; i++) {
            int kind = below(6);
            int figure = below(10);
            pair.men[i] = new PlainMine.Man(kind, figure, 0);
            text.append(KINDS.charAt(kind)).append(figure);
        }
        plain.pairs.add(pair);
        due("mine", Due.tell(x, text + ";").mine(), 1);
    }

    /** Runs in which some have nearly all the bruises that they can have. */
    private void bruiseAll() {
        for (int c = 0; c < 20; c++) {
            x.props(c, 3);
            plain.beams[c] = 3;
        }
        for (int i = 0; i < 2; i++) {
            for (int p = 0; p < plain.pairs.size(); p++) {
                x.stands(p, i);
                plain.pairs.get(p).cell = i;
            }
            plain = plain.then(16);
            x.minutes(16);
        }
        for (int c = 0; c < 20; c++) {
            plain.beams[c] = below(3);
            x.props(c, plain.beams[c]);
        }
    }

    private void changeSomething() {
        int p = plain.pairs.isEmpty() ? 0 : below(plain.pairs.size());
        int which = below(plain.pairs.isEmpty() ? 4 : 9);
        switch (which) {
            case 0:
            case 1:
                int cell = below(20);
                int v = below(4);
                due("props", x.props(cell, v), plain.beams[cell]);
                plain.beams[cell] = v;
                break;
            case 2:
                changeRowOrImage();
                break;
            case 3:
                int n = 1 + below(below(4) == 0 ? 60 : 6);
                if (plain.minute + n <= 999) {
                    plain = plain.then(n);
                    due("minutes(" + n + ")", x.minutes(n), plain.faces());
                }
                break;
            case 4:
                int place = below(below(2) == 0 ? 20 : 4);
                due("stands", x.stands(p, place), plain.pairs.get(p).cell);
                plain.pairs.get(p).cell = place;
                break;
            case 5:
                int words = below(below(5) == 0 ? 100 : 12);
                plain.pairs.get(p).toSay = Math.min(99, plain.pairs.get(p).toSay + words);
                due("adds", x.adds(p, words), plain.pairs.get(p).toSay);
                break;
            case 6:
                int one = below(2 * plain.pairs.size());
                int other = below(2 * plain.pairs.size());
                if (one != other) {
                    plain.change(one, other);
                    due("swaps", x.swaps(one, other), plain.man(one).kind);
                }
                break;
            case 7:
                turnOne(2 * p + below(2));
                break;
            default:
                tellMore(p);
        }
    }

    private void turnOne(int miner) {
        int kind = below(6);
        int figure = below(10);
        due("turn", x.turn(miner, kind, figure), 10 * plain.man(miner).kind + plain.man(miner).figure);
        plain.man(miner).kind = kind;
        plain.man(miner).figure = figure;
    }

    private void changeRowOrImage() {
        switch (below(3)) {
            case 0:
                due("image", x.image(), plain.minute);
                image = plain.copy();
                break;
            case 1:
                due("on", x.on(), image == null ? -3 : image.minute);
                plain = image == null ? plain : image.copy();
                break;
            default:
                due("clear", x.clear(), row.size());
                row.clear();
                int many = below(17);
                for (int i = 0; i < many; i++) {
                    row.add(below(3) > 0 ? plain.beams[i] : below(4));
                    due("row", x.row(row.get(i)), i + 1);
                }
        }
    }

    private void tellMore(int p) {
        int cell = below(20);
        int words = below(100);
        String text = "a" + p + cell / 10 + cell % 10 + ";m03;t" + p + words / 10 + words % 10 + ";";
        if (plain.minute + 3 > 999) {
            return;
        }
        due("mine " + text, Due.tell(x, text).mine(), 3);
        plain.pairs.get(p).cell = cell;
        plain = plain.then(3);
        plain.pairs.get(p).toSay = Math.min(99, plain.pairs.get(p).toSay + words);
    }

    private void allStateIsSo() {
        int wood = 0;
        int free = 0;
        int most = 0;
        for (int c = 0; c < 20; c++) {
            due("beams(" + c + ")", x.beams(c), plain.beams[c]);
            wood += plain.beams[c];
            free |= plain.beams[c] == 0 ? 1 << c : 0;
            most = plain.beams[c] > plain.beams[most] ? c : most;
        }
        int eager = 0;
        for (int p = 0; p < plain.pairs.size(); p++) {
            PlainMine.Pair pair = plain.pairs.get(p);
            due("pair(" + p + ", 0)", x.pair(p, 0), pair.cell);
            due("pair(" + p + ", 1)", x.pair(p, 1), pair.toSay);
            due("pair(" + p + ", 2)", x.pair(p, 2), plain.speaker(p, plain.minute + 1));
            for (int m = 2 * p; m < 2 * p + 2; m++) {
                due("miner(" + m + ", 0)", x.miner(m, 0), plain.man(m).kind);
                due("miner(" + m + ", 1)", x.miner(m, 1), plain.man(m).figure);
                due("miner(" + m + ", 2)", x.miner(m, 2), plain.man(m).bruises);
                due("miner(" + m + ", 3)", x.miner(m, 3), plain.man(m).rule().goes());
                eager |= plain.wants(m, plain.minute + 1) ? 1 << m : 0;
            }
        }
        countsAreSo();
        due("timber(0)", x.timber(0), wood);
        due("timber(1)", x.timber(1), most);
        due("timber(2)", x.timber(2), free);
        due("eager()", x.eager(), eager);
        due("mean(0)", x.mean(0), plain.mean(0));
        due("mean(1)", x.mean(1), plain.mean(1));
    }

    private void countsAreSo() {
        int faces = 0;
        int words = 0;
        for (int p = 0; p < plain.pairs.size(); p++) {
            faces |= plain.pairs.get(p).cell == 19 ? 1 << p : 0;
            words += plain.pairs.get(p).toSay;
        }
        int wood = 0;
        for (int beams : plain.beams) {
            wood += beams;
        }
        int[] counts = {plain.pairs.size(), plain.minute, faces, plain.bruises(), words, wood, row.size(), 0};
        for (int what = 0; what < counts.length; what++) {
            due("count(" + what + ")", x.count(what), counts[what]);
        }
    }

    private void askOfAll() {
        int[] best = {-9, -9, -9};
        int together = 0;
        for (int p = plain.pairs.size() - 1; p >= 0; p--) {
            int cell = plain.pairs.get(p).cell;
            best[0] = best[0] < 0 || cell >= plain.pairs.get(best[0]).cell ? p : best[0];
            best[1] = best[1] < 0 || cell <= plain.pairs.get(best[1]).cell ? p : best[1];
            for (int q = 0; q < p; q++) {
                together += plain.pairs.get(q).cell == cell ? 1 : 0;
            }
        }
        for (int m = 2 * plain.pairs.size() - 1; m >= 0; m--) {
            best[2] = best[2] < 0 || plain.man(m).bruises >= plain.man(best[2]).bruises ? m : best[2];
        }
        for (int what = 0; what < 3; what++) {
            due("first(" + what + ")", x.first(what), best[what]);
        }
        due("first(3)", x.first(3), together);
        due("faced(-1)", x.faced(-1), plain.first());
        due("faced(-2)", x.faced(-2), PlainMine.orNone(plain.allFaced()));
        due("change()", x.change(), plain.changes());
        int n = below(41);
        due("clears(" + n + ")", x.clears(n), plain.clears(n));
        due("bruisesThen(-1, " + n + ")", x.bruisesThen(-1, n), plain.then(n).bruises());
        int shifts = 1 + below(20);
        int seed = random.nextInt();
        for (int what = 0; what < 2; what++) {
            due("lots(" + shifts + ", " + seed + ", " + what + ")",
                    x.lots(shifts, seed, what), plain.lots(shifts, seed, what));
        }
        if (below(4) == 0) {
            due("judge()", x.judge(), plain.judge(row));
            row.clear();
            due("count(6)", x.count(6), 0);
        }
    }

    private void askOfEach() {
        for (int p = 0; p < plain.pairs.size(); p++) {
            int n = below(61);
            due("pairThen(" + p + ", " + n + ", 0)", x.pairThen(p, n, 0), plain.then(n).pairs.get(p).cell);
            due("pairThen(" + p + ", " + n + ", 1)", x.pairThen(p, n, 1), plain.then(n).pairs.get(p).toSay);
            due("faced(" + p + ")", x.faced(p), PlainMine.orNone(plain.faced(p)));
            due("done(" + p + ")", x.done(p), plain.done(p));
            due("begins(" + p + ")", x.begins(p), plain.begins(p));
            due("bestCell(" + p + ", 0)", x.bestCell(p, 0), plain.bestCell(p, 0));
            due("bestCell(" + p + ", 1)", x.bestCell(p, 1), plain.bestCell(p, 1));
            int hums = below(13);
            due("hum(" + p + ", " + hums + ")", x.hum(p, hums), plain.hum(p, hums));
            int twos = below(31);
            due("two(" + p + ", " + twos + ")", x.two(p, twos), plain.two(p, twos));
            askCough(p);
        }
        for (int m = 0; m < 2 * plain.pairs.size(); m++) {
            int n = below(61);
            due("bruisesThen(" + m + ", " + n + ")", x.bruisesThen(m, n), plain.then(n).man(m).bruises);
            int v = below(below(3) == 0 ? 100 : 8);
            due("hurt(" + m + ", " + v + ")", x.hurt(m, v), plain.hurt(m, v));
            due("bestKind(" + m + ", 0)", x.bestKind(m, 0), plain.bestKind(m, 0));
            due("bestKind(" + m + ", 1)", x.bestKind(m, 1), plain.bestKind(m, 1));
            if (m % 2 == below(2)) {
                askWhatIs(m);
            }
        }
    }

    private void askCough(int p) {
        int n = below(8);
        int t = 2 + below(19);
        int v = Math.min(19, plain.pairs.get(p).cell + below(16));
        for (int part = 0; part < 2; part++) {
            due("cough(" + p + ", " + n + ", " + t + ", " + v + ", " + part + ")",
                    x.cough(p, n, t, v, part), plain.cough(p, n, t, v, part));
        }
    }

    /** A row that tells the way of the pair, now and then with one number that is not so. */
    private void askWhatIs(int m) {
        x.clear();
        row.clear();
        int many = below(17);
        for (int i = 0; i < many; i++) {
            row.add(plain.then(i).pairs.get(m / 2).cell);
        }
        if (many > 0 && below(3) == 0) {
            row.set(below(many), below(20));
        }
        for (int v : row) {
            x.row(v);
        }
        for (int what = 0; what < 2; what++) {
            due("whatIs(" + m + ", " + what + ") by " + row, x.whatIs(m, what), plain.whatIs(m, what, row));
        }
        due("the row stays", x.count(6), many);
    }
}
