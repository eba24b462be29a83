/**
 * A mine told in letters: pairs of miners of six kinds go down a gallery of cells with beams, each pair with one lamp,
 * and the lamp is carried by who is not speaking.
 *
 * Every row that a call needs is made in the constructor and used again: no call makes an object.
 */
public final class LampOfTheSilent {
    private static final int CELLS = 20;
    private static final int FACE = CELLS - 1;
    private static final int BEAMS_MOST = 3;
    private static final int PAIRS_MOST = 4;
    private static final int MINERS_MOST = 2 * PAIRS_MOST;
    private static final int KINDS = 6;
    private static final int FIGURE_MOST = 9;
    private static final int BRUISES_MOST = 99;
    private static final int TO_SAY_MOST = 99;
    private static final int MINUTE_MOST = 999;
    private static final int MINUTES_MOST = 60;
    private static final int THOUGHT_MOST = 60;
    private static final int LETTERS_MOST = 96;
    private static final int LETTER_MOST = 255;
    private static final int ROW_MOST = 16;
    private static final int ROW_NUMBER_MOST = 99;

    /** The answer where the document tells that there is none. */
    private static final int NONE = -9;
    private static final int NOBODY = -1;
    private static final int OTHER = -2;
    private static final int STATE = -3;
    private static final int BELOW = -4;
    private static final int ROOM = -6;
    private static final int REFUSALS_MOST = 6;
    private static final long LONG_REFUSAL = 4000000000000000000L;

    private final Gallery now = new Gallery();
    private final Gallery kept = new Gallery();
    private boolean isKept;
    private final Thought thought = new Thought(now);
    private final Numbers letters = new Numbers(LETTERS_MOST);
    private final Numbers told = new Numbers(ROW_MOST);
    private final int[] refusals = new int[REFUSALS_MOST + 1];

    public LampOfTheSilent() {
    }

    public int letter(int c) {
        if (c < 0) {
            return refused(BELOW);
        }
        if (c > LETTER_MOST || letters.isFull()) {
            return refused(ROOM);
        }
        return letters.add(c);
    }

    public int mine() {
        int answer = Statements.comeTo(letters, now);
        letters.forget();
        return answer;
    }

    public int miner(int miner, int what) {
        if (!now.isMiner(miner)) {
            return refused(NOBODY);
        }
        switch (what) {
            case 0:
                return now.kindOf(miner);
            case 1:
                return now.figureOf(miner);
            case 2:
                return now.bruisesOf(miner);
            case 3:
                return Kinds.goes(now.kindOf(miner));
            default:
                return refused(OTHER);
        }
    }

    public int pair(int pair, int what) {
        if (!now.isPair(pair)) {
            return refused(NOBODY);
        }
        switch (what) {
            case 0:
                return now.cellOf(pair);
            case 1:
                return now.toSayOf(pair);
            case 2:
                return now.speakerIn(pair, now.minute() + 1);
            default:
                return refused(OTHER);
        }
    }

    public int beams(int cell) {
        return Gallery.isCell(cell) ? now.beamsIn(cell) : refused(NOBODY);
    }

    public int props(int cell, int v) {
        if (!Gallery.isCell(cell)) {
            return refused(NOBODY);
        }
        if (v < 0) {
            return refused(BELOW);
        }
        if (v > BEAMS_MOST) {
            return refused(ROOM);
        }
        int before = now.beamsIn(cell);
        now.setBeams(cell, v);
        return before;
    }

    public int stands(int pair, int cell) {
        if (!now.isPair(pair) || !Gallery.isCell(cell)) {
            return refused(NOBODY);
        }
        int before = now.cellOf(pair);
        now.setCell(pair, cell);
        return before;
    }

    public int adds(int pair, int v) {
        if (!now.isPair(pair)) {
            return refused(NOBODY);
        }
        if (v < 0) {
            return refused(BELOW);
        }
        if (v > TO_SAY_MOST) {
            return refused(ROOM);
        }
        now.setToSay(pair, now.toSayOf(pair) + v);
        return now.toSayOf(pair);
    }

    public int swaps(int one, int other) {
        if (!now.isMiner(one) || !now.isMiner(other) || one == other) {
            return refused(NOBODY);
        }
        now.changePlaces(one, other);
        return now.kindOf(one);
    }

    public int turn(int miner, int kind, int figure) {
        if (!now.isMiner(miner)) {
            return refused(NOBODY);
        }
        if (kind < 0 || kind >= KINDS) {
            return refused(OTHER);
        }
        if (figure < 0) {
            return refused(BELOW);
        }
        if (figure > FIGURE_MOST) {
            return refused(ROOM);
        }
        int before = 10 * now.kindOf(miner) + now.figureOf(miner);
        now.setKind(miner, kind);
        now.setFigure(miner, figure);
        return before;
    }

    public int minutes(int n) {
        if (n < 1) {
            return refused(BELOW);
        }
        if (n > MINUTES_MOST || now.minute() + n > MINUTE_MOST) {
            return refused(ROOM);
        }
        now.pass(n);
        return Integer.bitCount(now.facedBits());
    }

    public int pairThen(int pair, int n, int what) {
        if (!now.isPair(pair)) {
            return refused(NOBODY);
        }
        int bad = refusalOf(n, 0, THOUGHT_MOST, what);
        if (bad != 0) {
            return refused(bad);
        }
        return what == 0 ? thought.cellThen(pair, n) : thought.toSayThen(pair, n);
    }

    public int bruisesThen(int miner, int n) {
        if (miner != -1 && !now.isMiner(miner)) {
            return refused(NOBODY);
        }
        int bad = refusalOf(n, 0, THOUGHT_MOST, 0);
        if (bad != 0) {
            return refused(bad);
        }
        return miner == -1 ? thought.allBruisesThen(n) : thought.bruisesOfThen(miner, n);
    }

    public int faced(int pair) {
        if (pair == -1) {
            return thought.firstFaced();
        }
        if (pair == -2) {
            return thought.allFaced();
        }
        return now.isPair(pair) ? thought.facedBehind(pair) : refused(NOBODY);
    }

    public int done(int pair) {
        return now.isPair(pair) ? thought.doneBehind(pair) : refused(NOBODY);
    }

    public int hurt(int miner, int v) {
        if (!now.isMiner(miner)) {
            return refused(NOBODY);
        }
        int bad = refusalOf(v, 0, BRUISES_MOST, 0);
        return bad != 0 ? refused(bad) : thought.hurtBehind(miner, v);
    }

    public int begins(int pair) {
        return now.isPair(pair) ? thought.bestToSay(pair) : refused(NOBODY);
    }

    public int clears(int n) {
        int bad = refusalOf(n, 0, 40, 0);
        return bad != 0 ? refused(bad) : thought.dearestCell(n);
    }

    public int change() {
        return thought.bestChange();
    }

    public int bestKind(int miner, int what) {
        if (!now.isMiner(miner)) {
            return refused(NOBODY);
        }
        if (what != 0 && what != 1) {
            return refused(OTHER);
        }
        return thought.soonestKind(miner, what);
    }

    public int bestCell(int pair, int what) {
        if (!now.isPair(pair)) {
            return refused(NOBODY);
        }
        if (what != 0 && what != 1) {
            return refused(OTHER);
        }
        return thought.easiestCell(pair, what);
    }

    public int hum(int pair, int n) {
        if (!now.isPair(pair)) {
            return refused(NOBODY);
        }
        int bad = refusalOf(n, 0, 12, 0);
        return bad != 0 ? refused(bad) : thought.fewestBeams(pair, n);
    }

    public int first(int what) {
        switch (what) {
            case 0:
                return now.farthestOn();
            case 1:
                return now.leastFar();
            case 2:
                return now.mostHurt();
            case 3:
                return now.twosTogether();
            default:
                return refused(OTHER);
        }
    }

    public int timber(int what) {
        switch (what) {
            case 0:
                return now.allBeams();
            case 1:
                return now.cellOfMost();
            case 2:
                return now.freeBits();
            default:
                return refused(OTHER);
        }
    }

    public int eager() {
        return now.eagerBits();
    }

    public int two(int pair, int n) {
        if (!now.isPair(pair)) {
            return refused(NOBODY);
        }
        int bad = refusalOf(n, 0, 30, 0);
        return bad != 0 ? refused(bad) : thought.settledTwo(pair, n);
    }

    public long cough(int pair, int n, int t, int v, int part) {
        if (!now.isPair(pair)) {
            return longRefused(NOBODY);
        }
        if (n < 0 || v < 0 || t < 2) {
            return longRefused(BELOW);
        }
        if (n > 7 || t > 20 || v > FACE) {
            return longRefused(ROOM);
        }
        if (part != 0 && part != 1) {
            return longRefused(OTHER);
        }
        return partOf(thought.coughsThatReach(pair, n, t, v), power(t, n), part);
    }

    public long mean(int part) {
        if (part != 0 && part != 1) {
            return longRefused(OTHER);
        }
        return partOf(now.allBruises(), Math.max(1, now.miners()), part);
    }

    public int whatIs(int miner, int what) {
        if (!now.isMiner(miner)) {
            return refused(NOBODY);
        }
        switch (what) {
            case 0:
                return thought.kindsSo(miner, told);
            case 1:
                return thought.figuresSo(miner, told);
            default:
                return refused(OTHER);
        }
    }

    public int row(int v) {
        if (v < 0) {
            return refused(BELOW);
        }
        if (v > ROW_NUMBER_MOST || told.isFull()) {
            return refused(ROOM);
        }
        return told.add(v);
    }

    public int judge() {
        int answer = now.firstNotSo(told);
        told.forget();
        return answer;
    }

    public int clear() {
        int had = told.size();
        told.forget();
        return had;
    }

    public int lots(int n, int z, int what) {
        int bad = refusalOf(n, 1, 20, what);
        return bad != 0 ? refused(bad) : thought.shiftsByLot(n, z, what);
    }

    public int image() {
        kept.become(now);
        isKept = true;
        return now.minute();
    }

    public int on() {
        if (!isKept) {
            return refused(STATE);
        }
        now.become(kept);
        return now.minute();
    }

    public int count(int what) {
        switch (what) {
            case 0:
                return now.pairs();
            case 1:
                return now.minute();
            case 2:
                return now.facedBits();
            case 3:
                return now.allBruises();
            case 4:
                return now.allToSay();
            case 5:
                return now.allBeams();
            case 6:
                return told.size();
            case 7:
                return letters.size();
            default:
                return what > 10 && what - 10 < refusals.length ? refusals[what - 10] : NONE;
        }
    }

    private int refused(int number) {
        int place = -number;
        if (place >= 0 && place < refusals.length) {
            refusals[place]++;
        }
        return number;
    }

    private long longRefused(int number) {
        return LONG_REFUSAL - refused(number);
    }

    /** What speaks against a number, then against a what that is 0 or 1; 0 is nothing. */
    private static int refusalOf(int number, int least, int most, int what) {
        if (number < least) {
            return BELOW;
        }
        if (number > most) {
            return ROOM;
        }
        return what != 0 && what != 1 ? OTHER : 0;
    }

    private static long partOf(long above, long below, int part) {
        long shared = sharedDivisor(above, below);
        if (shared < 1) {
            return part == 0 ? above : below;
        }
        return part == 0 ? above / shared : below / shared;
    }

    private static long sharedDivisor(long one, long other) {
        long great = one;
        long small = other;
        // Euclid's steps on longs end far below a hundred.
        for (int step = 0; step < 100 && small != 0; step++) {
            long rest = great % small;
            great = small;
            small = rest;
        }
        return great;
    }

    private static long power(long base, int times) {
        long product = 1;
        for (int i = 0; i < times; i++) {
            product *= base;
        }
        return product;
    }

    /** Numbers one behind the other, as many as there is room for. */
    private static final class Numbers {
        private final int[] values;
        private int size;

        Numbers(int most) {
            values = new int[Math.max(0, most)];
        }

        int size() {
            return size;
        }

        boolean isFull() {
            return size >= values.length;
        }

        int add(int value) {
            if (size >= 0 && size < values.length) {
                values[size] = value;
                size++;
            }
            return size;
        }

        /** The number at a place; -1 behind the last. */
        int at(int place) {
            return place >= 0 && place < size && place < values.length ? values[place] : -1;
        }

        void forget() {
            size = 0;
        }
    }

    /** The rules of the KINDS of miners, each told by the one it stands under. */
    private static final class Kinds {
        static final int MINER = 0;
        static final int SHY = 1;
        static final int TALKER = 2;
        static final int DEAF = 3;
        static final int FATHER = 4;
        static final int OVERSEER = 5;

        private Kinds() {
        }

        static boolean wants(int kind, int figure, int toSay, int ahead, int minute) {
            switch (kind) {
                case MINER:
                    return toSay > 0;
                case SHY:
                    return toSay > 0 && ahead == 0;
                case TALKER:
                    return true;
                case FATHER:
                    return minute % 2 == 0;
                case OVERSEER:
                    int every = figure + 3;
                    return every < 1 || minute % every != 0;
                default:
                    return false;
            }
        }

        static int goes(int kind) {
            switch (kind) {
                case TALKER:
                case FATHER:
                    return 1;
                case DEAF:
                    return 3;
                default:
                    return 2;
            }
        }

        /** The KIND of a letter; -1 if there is none. */
        static int ofLetter(int letter) {
            switch (letter) {
                case 'm':
                    return MINER;
                case 's':
                    return SHY;
                case 't':
                    return TALKER;
                case 'd':
                    return DEAF;
                case 'f':
                    return FATHER;
                case 'o':
                    return OVERSEER;
                default:
                    return -1;
            }
        }
    }

    /** The gallery with its beams, the pairs in it and the minute: all that an image keeps. */
    private static final class Gallery {
        private final int[] beamsByCell = new int[CELLS];
        private final int[] cells = new int[PAIRS_MOST];
        private final int[] toSay = new int[PAIRS_MOST];
        private final int[] kinds = new int[MINERS_MOST];
        private final int[] figures = new int[MINERS_MOST];
        private final int[] bruises = new int[MINERS_MOST];
        private int pairCount;
        private int minuteNow;

        void become(Gallery other) {
            if (other == null) {
                return;
            }
            copy(other.beamsByCell, beamsByCell);
            copy(other.cells, cells);
            copy(other.toSay, toSay);
            copy(other.kinds, kinds);
            copy(other.figures, figures);
            copy(other.bruises, bruises);
            pairCount = other.pairCount;
            minuteNow = other.minuteNow;
        }

        private static void copy(int[] from, int[] to) {
            if (from == null || to == null) {
                return;
            }
            for (int i = 0; i < from.length && i < to.length; i++) {
                to[i] = from[i];
            }
        }

        static boolean isCell(int cell) {
            return cell >= 0 && cell < CELLS;
        }

        boolean isPair(int pair) {
            return pair >= 0 && pair < pairCount && pair < PAIRS_MOST;
        }

        boolean isMiner(int miner) {
            return miner >= 0 && miner < 2 * pairCount && miner < MINERS_MOST;
        }

        int pairs() {
            return pairCount;
        }

        int miners() {
            return 2 * pairCount;
        }

        int minute() {
            return minuteNow;
        }

        int beamsIn(int cell) {
            return cell >= 0 && cell < beamsByCell.length ? beamsByCell[cell] : 0;
        }

        void setBeams(int cell, int v) {
            if (cell >= 0 && cell < beamsByCell.length) {
                beamsByCell[cell] = v;
            }
        }

        int cellOf(int pair) {
            return pair >= 0 && pair < cells.length ? cells[pair] : 0;
        }

        void setCell(int pair, int cell) {
            if (pair >= 0 && pair < cells.length) {
                cells[pair] = Math.min(FACE, cell);
            }
        }

        int toSayOf(int pair) {
            return pair >= 0 && pair < toSay.length ? toSay[pair] : 0;
        }

        void setToSay(int pair, int v) {
            if (pair >= 0 && pair < toSay.length) {
                toSay[pair] = Math.max(0, Math.min(TO_SAY_MOST, v));
            }
        }

        int kindOf(int miner) {
            return miner >= 0 && miner < kinds.length ? kinds[miner] : 0;
        }

        void setKind(int miner, int kind) {
            if (miner >= 0 && miner < kinds.length) {
                kinds[miner] = kind;
            }
        }

        int figureOf(int miner) {
            return miner >= 0 && miner < figures.length ? figures[miner] : 0;
        }

        void setFigure(int miner, int figure) {
            if (miner >= 0 && miner < figures.length) {
                figures[miner] = figure;
            }
        }

        int bruisesOf(int miner) {
            return miner >= 0 && miner < bruises.length ? bruises[miner] : 0;
        }

        void setBruises(int miner, int v) {
            if (miner >= 0 && miner < bruises.length) {
                bruises[miner] = Math.min(BRUISES_MOST, v);
            }
        }

        /** A pair more, at cell 0 with nothing to say; only where there is room. */
        void addPair() {
            if (pairCount < PAIRS_MOST) {
                pairCount++;
            }
        }

        void changePlaces(int one, int other) {
            int kind = kindOf(one);
            int figure = figureOf(one);
            int hurts = bruisesOf(one);
            setKind(one, kindOf(other));
            setFigure(one, figureOf(other));
            setBruises(one, bruisesOf(other));
            setKind(other, kind);
            setFigure(other, figure);
            setBruises(other, hurts);
        }

        boolean isFaced(int pair) {
            return cellOf(pair) >= FACE;
        }

        boolean areAllFaced() {
            for (int p = 0; p < pairCount; p++) {
                if (!isFaced(p)) {
                    return false;
                }
            }
            return true;
        }

        boolean wantsIn(int miner, int minute) {
            int pair = miner / 2;
            int cell = cellOf(pair);
            if (cell >= FACE) {
                return false;
            }
            return Kinds.wants(kindOf(miner), figureOf(miner), toSayOf(pair), beamsIn(cell + 1), minute);
        }

        int speakerIn(int pair, int minute) {
            if (wantsIn(2 * pair, minute)) {
                return 0;
            }
            return wantsIn(2 * pair + 1, minute) ? 1 : NONE;
        }

        void pass(int n) {
            for (int i = 0; i < n; i++) {
                minuteNow++;
                for (int p = 0; p < pairCount; p++) {
                    walk(p, speakerIn(p, minuteNow));
                }
            }
        }

        /** A pair's way in one minute, with one who speaks (0, 1) or with nobody who does. */
        void walk(int pair, int speaker) {
            if (isFaced(pair)) {
                return;
            }
            if (speaker != 0 && speaker != 1) {
                // Nobody speaks: then it is always the first who holds the lamp.
                setCell(pair, cellOf(pair) + Kinds.goes(kindOf(2 * pair)));
                return;
            }
            int miner = 2 * pair + speaker;
            setToSay(pair, toSayOf(pair) - 1);
            setCell(pair, cellOf(pair) + 1);
            setBruises(miner, bruisesOf(miner) + beamsIn(cellOf(pair)));
        }

        int facedBits() {
            int bits = 0;
            for (int p = 0; p < pairCount; p++) {
                bits |= isFaced(p) ? 1 << p : 0;
            }
            return bits;
        }

        int eagerBits() {
            int bits = 0;
            for (int m = 0; m < miners(); m++) {
                bits |= wantsIn(m, minuteNow + 1) ? 1 << m : 0;
            }
            return bits;
        }

        int allBruises() {
            int sum = 0;
            for (int m = 0; m < miners(); m++) {
                sum += bruisesOf(m);
            }
            return sum;
        }

        int allToSay() {
            int sum = 0;
            for (int p = 0; p < pairCount; p++) {
                sum += toSayOf(p);
            }
            return sum;
        }

        int allBeams() {
            int sum = 0;
            for (int c = 0; c < CELLS; c++) {
                sum += beamsIn(c);
            }
            return sum;
        }

        int cellOfMost() {
            int best = 0;
            for (int c = 1; c < CELLS; c++) {
                best = beamsIn(c) > beamsIn(best) ? c : best;
            }
            return best;
        }

        int freeBits() {
            int bits = 0;
            for (int c = 0; c < CELLS; c++) {
                bits |= beamsIn(c) == 0 ? 1 << c : 0;
            }
            return bits;
        }

        int farthestOn() {
            int best = pairCount > 0 ? 0 : NONE;
            for (int p = 1; p < pairCount; p++) {
                best = cellOf(p) > cellOf(best) ? p : best;
            }
            return best;
        }

        int leastFar() {
            int best = pairCount > 0 ? 0 : NONE;
            for (int p = 1; p < pairCount; p++) {
                best = cellOf(p) < cellOf(best) ? p : best;
            }
            return best;
        }

        int mostHurt() {
            int best = pairCount > 0 ? 0 : NONE;
            for (int m = 1; m < miners(); m++) {
                best = bruisesOf(m) > bruisesOf(best) ? m : best;
            }
            return best;
        }

        int twosTogether() {
            int twos = 0;
            for (int p = 0; p < pairCount; p++) {
                for (int q = p + 1; q < pairCount; q++) {
                    twos += cellOf(p) == cellOf(q) ? 1 : 0;
                }
            }
            return twos;
        }

        /** The first cell whose beams are not as a row tells them. */
        int firstNotSo(Numbers row) {
            if (row == null) {
                return NONE;
            }
            for (int c = 0; c < row.size(); c++) {
                if (beamsIn(c) != row.at(c)) {
                    return c;
                }
            }
            return NONE;
        }
    }

    /** The text of a mine: where it breaks off, where it is not as it must be, and how it comes to a gallery. */
    private static final class Statements {
        private static final int BROKEN = -1000;
        private static final int WRONG = -2000;

        private Statements() {
        }

        /** How many letters a statement has that begins with this one; 0 if none does. */
        private static int sizeOf(int letter) {
            switch (letter) {
                case 'b':
                case 'a':
                case 't':
                    return 5;
                case 'p':
                    return 6;
                case 'x':
                case 'm':
                    return 4;
                default:
                    return 0;
            }
        }

        /** The text comes to the gallery: how many statements it has; or its fault, and nothing comes. */
        static int comeTo(Numbers text, Gallery gallery) {
            if (text == null || gallery == null) {
                return BROKEN;
            }
            int broken = brokenAt(text);
            if (broken != NONE) {
                return BROKEN - broken;
            }
            int wrong = wrongAt(text, gallery.pairs(), gallery.minute());
            if (wrong != NONE) {
                return WRONG - wrong;
            }
            int statements = 0;
            int size = 1;
            for (int at = 0; at < text.size(); at += size) {
                size = Math.max(1, sizeOf(text.at(at)));
                come(text, at, gallery);
                statements++;
            }
            return statements;
        }

        /** The place of the first letter with which no mine can go on, the end if something lacks; or none. */
        private static int brokenAt(Numbers text) {
            if (text.size() == 0) {
                return 0;
            }
            int size = 1;
            for (int at = 0; at < text.size(); at += size) {
                size = sizeOf(text.at(at));
                if (size < 1) {
                    return at;
                }
                for (int i = 1; i < size; i++) {
                    if (!fits(text, at, i, size)) {
                        return at + i;
                    }
                }
            }
            return NONE;
        }

        private static boolean fits(Numbers text, int at, int i, int size) {
            int letter = text.at(at + i);
            if (i == size - 1) {
                return letter == ';';
            }
            if (text.at(at) == 'p' && i % 2 == 1) {
                return Kinds.ofLetter(letter) >= 0;
            }
            return letter >= '0' && letter <= '9';
        }

        /** The place of the first statement that, behind all ahead of it, is not as it must be; or none. */
        private static int wrongAt(Numbers text, int pairsBefore, int minuteBefore) {
            int pairs = pairsBefore;
            int minute = minuteBefore;
            int size = 1;
            for (int at = 0; at < text.size(); at += size) {
                size = sizeOf(text.at(at));
                if (size < 1 || !isRight(text, at, pairs, minute)) {
                    return at;
                }
                pairs += text.at(at) == 'p' ? 1 : 0;
                minute += text.at(at) == 'm' ? twoDigits(text, at + 1) : 0;
            }
            return NONE;
        }

        private static boolean isRight(Numbers text, int at, int pairs, int minute) {
            int one = digit(text, at + 1);
            int other = digit(text, at + 2);
            switch (text.at(at)) {
                case 'b':
                    return twoDigits(text, at + 1) < CELLS && digit(text, at + 3) <= BEAMS_MOST;
                case 'p':
                    return pairs < PAIRS_MOST;
                case 'a':
                    return one < pairs && twoDigits(text, at + 2) < CELLS;
                case 't':
                    return one < pairs;
                case 'x':
                    return one < 2 * pairs && other < 2 * pairs && one != other;
                case 'm':
                    int n = twoDigits(text, at + 1);
                    return n >= 1 && n <= MINUTES_MOST && minute + n <= MINUTE_MOST;
                default:
                    return false;
            }
        }

        private static void come(Numbers text, int at, Gallery gallery) {
            int one = digit(text, at + 1);
            switch (text.at(at)) {
                case 'b':
                    gallery.setBeams(twoDigits(text, at + 1), digit(text, at + 3));
                    break;
                case 'p':
                    comePair(text, at, gallery);
                    break;
                case 'a':
                    gallery.setCell(one, twoDigits(text, at + 2));
                    break;
                case 't':
                    gallery.setToSay(one, gallery.toSayOf(one) + twoDigits(text, at + 2));
                    break;
                case 'x':
                    gallery.changePlaces(one, digit(text, at + 2));
                    break;
                case 'm':
                    gallery.pass(twoDigits(text, at + 1));
                    break;
                default:
                    break;
            }
        }

        private static void comePair(Numbers text, int at, Gallery gallery) {
            int miner = gallery.miners();
            gallery.addPair();
            gallery.setKind(miner, Kinds.ofLetter(text.at(at + 1)));
            gallery.setFigure(miner, digit(text, at + 2));
            gallery.setKind(miner + 1, Kinds.ofLetter(text.at(at + 3)));
            gallery.setFigure(miner + 1, digit(text, at + 4));
        }

        private static int digit(Numbers text, int place) {
            return text.at(place) - '0';
        }

        private static int twoDigits(Numbers text, int place) {
            return 10 * digit(text, place) + digit(text, place + 1);
        }
    }

    /** What is asked in mind: a second gallery becomes what is now, and goes on from there. */
    private static final class Thought {
        private static final int TO_SAY_TRIED = 20;
        private static final int DONE_IS_WORTH = 3;
        private static final int SHIFT = 10;
        private static final int LOT_TO_SAY = 12;

        private final Gallery now;
        private final Gallery mind = new Gallery();
        private final int[] fewest = new int[CELLS];

        Thought(Gallery now) {
            this.now = now;
        }

        private void think(int n) {
            mind.become(now);
            mind.pass(n);
        }

        int cellThen(int pair, int n) {
            think(n);
            return mind.cellOf(pair);
        }

        int toSayThen(int pair, int n) {
            think(n);
            return mind.toSayOf(pair);
        }

        int bruisesOfThen(int miner, int n) {
            think(n);
            return mind.bruisesOf(miner);
        }

        int allBruisesThen(int n) {
            think(n);
            return mind.allBruises();
        }

        int facedBehind(int pair) {
            think(0);
            return goToFace(pair);
        }

        int allFaced() {
            think(0);
            return goAllToFace();
        }

        /** From what is in mind: behind how many minutes the pair is at the face. */
        private int goToFace(int pair) {
            for (int n = 0; n <= THOUGHT_MOST; n++) {
                if (mind.isFaced(pair)) {
                    return n;
                }
                mind.pass(1);
            }
            return NONE;
        }

        private int goAllToFace() {
            for (int n = 0; n <= THOUGHT_MOST; n++) {
                if (mind.areAllFaced()) {
                    return n;
                }
                mind.pass(1);
            }
            return NONE;
        }

        /** Whether one number of minutes is sooner than another, where none is the latest of all. */
        private static boolean isSooner(int one, int other) {
            return one != NONE && (other == NONE || one < other);
        }

        int firstFaced() {
            int best = NONE;
            int soonest = NONE;
            for (int p = 0; p < now.pairs(); p++) {
                think(0);
                int behind = goToFace(p);
                if (isSooner(behind, soonest)) {
                    best = p;
                    soonest = behind;
                }
            }
            return best;
        }

        int doneBehind(int pair) {
            think(0);
            for (int n = 0; n <= THOUGHT_MOST; n++) {
                if (mind.toSayOf(pair) == 0) {
                    return n;
                }
                mind.pass(1);
            }
            return NONE;
        }

        int hurtBehind(int miner, int v) {
            think(0);
            for (int n = 0; n <= THOUGHT_MOST; n++) {
                if (mind.bruisesOf(miner) >= v) {
                    return n;
                }
                mind.pass(1);
            }
            return NONE;
        }

        int bestToSay(int pair) {
            int best = NONE;
            int soonest = NONE;
            // From the greatest down, so that of several the greatest stays.
            for (int v = TO_SAY_TRIED; v >= 0; v--) {
                think(0);
                mind.setToSay(pair, v);
                int behind = goToFace(pair);
                // At the face nobody speaks any more: what is left to say then is left for good.
                if (mind.toSayOf(pair) == 0 && isSooner(behind, soonest)) {
                    best = v;
                    soonest = behind;
                }
            }
            return best;
        }

        int dearestCell(int n) {
            int best = NONE;
            think(n);
            int least = mind.allBruises();
            for (int c = 0; c < CELLS; c++) {
                think(0);
                mind.setBeams(c, 0);
                mind.pass(n);
                if (mind.allBruises() < least) {
                    best = c;
                    least = mind.allBruises();
                }
            }
            return best;
        }

        int bestChange() {
            int best = NONE;
            int soonest = allFaced();
            for (int one = 0; one < now.miners(); one++) {
                // The first miner of the next pair: two of one pair are no change between pairs.
                for (int other = 2 * (one / 2) + 2; other < now.miners(); other++) {
                    think(0);
                    mind.changePlaces(one, other);
                    int behind = goAllToFace();
                    if (isSooner(behind, soonest)) {
                        best = 10 * one + other;
                        soonest = behind;
                    }
                }
            }
            return best;
        }

        int soonestKind(int miner, int what) {
            int best = NONE;
            int soonest = NONE;
            for (int kind = 0; kind < KINDS; kind++) {
                think(0);
                mind.setKind(miner, kind);
                int behind = goToFace(miner / 2);
                if (isSooner(behind, soonest)) {
                    best = kind;
                    soonest = behind;
                }
            }
            return what == 0 ? best : soonest;
        }

        int easiestCell(int pair, int what) {
            int best = NONE;
            int least = NONE;
            for (int c = 0; c < CELLS; c++) {
                think(0);
                mind.setCell(pair, c);
                int beams = beamsToFace(pair);
                if (isSooner(beams, least)) {
                    best = c;
                    least = beams;
                }
            }
            return what == 0 ? best : least;
        }

        /** From what is in mind: the beams that the pair walks into; not its bruises, which end at 99. */
        private int beamsToFace(int pair) {
            int beams = 0;
            for (int n = 0; n <= THOUGHT_MOST; n++) {
                if (mind.isFaced(pair)) {
                    return beams;
                }
                if (mind.speakerIn(pair, mind.minute() + 1) != NONE) {
                    beams += mind.beamsIn(mind.cellOf(pair) + 1);
                }
                mind.pass(1);
            }
            return NONE;
        }

        int fewestBeams(int pair, int n) {
            int goes = Kinds.goes(now.kindOf(2 * pair));
            for (int c = 0; c < fewest.length; c++) {
                fewest[c] = c == now.cellOf(pair) ? 0 : NONE;
            }
            for (int i = 0; i < n; i++) {
                humOne(goes);
            }
            return fewestAt(FACE);
        }

        /** One minute more of every way at once; downwards, so that the cells behind are still those of before. */
        private void humOne(int goes) {
            for (int c = FACE; c >= 0 && c < fewest.length; c--) {
                int best = c == FACE ? fewestAt(FACE) : NONE;
                int spoken = fewestAt(c - 1) == NONE ? NONE : fewestAt(c - 1) + now.beamsIn(c);
                best = isSooner(spoken, best) ? spoken : best;
                int nearest = c == FACE ? 1 : goes;
                for (int far = nearest; far <= goes; far++) {
                    best = isSooner(fewestAt(c - far), best) ? fewestAt(c - far) : best;
                }
                fewest[c] = best;
            }
        }

        private int fewestAt(int cell) {
            return cell >= 0 && cell < fewest.length ? fewest[cell] : NONE;
        }

        int settledTwo(int pair, int n) {
            for (int one = 0; one <= 1; one++) {
                for (int other = 0; other <= 1; other++) {
                    boolean oneStays = price(pair, n, one, other, 0) <= price(pair, n, 1 - one, other, 0);
                    boolean otherStays = price(pair, n, one, other, 1) <= price(pair, n, one, 1 - other, 1);
                    if (oneStays && otherStays) {
                        return 10 * one + other;
                    }
                }
            }
            return NONE;
        }

        private int price(int pair, int n, int one, int other, int whose) {
            int speaker = NONE;
            if (one == 1) {
                speaker = 0;
            } else if (other == 1) {
                speaker = 1;
            }
            think(0);
            for (int i = 0; i < n; i++) {
                mind.walk(pair, speaker);
            }
            int saved = mind.toSayOf(pair) == 0 ? DONE_IS_WORTH : 0;
            return mind.bruisesOf(2 * pair + whose) - saved;
        }

        /** Of all t to the n ways of the odds, how many bring the pair to the cell or farther. */
        long coughsThatReach(int pair, int n, int t, int cell) {
            long ways = 0;
            for (int coughs = 0; coughs < 1 << n; coughs++) {
                if (cellWithCoughs(pair, n, coughs) >= cell) {
                    ways += power(t - 1, n - Integer.bitCount(coughs));
                }
            }
            return ways;
        }

        private int cellWithCoughs(int pair, int n, int coughs) {
            think(0);
            for (int i = 0; i < n; i++) {
                boolean isCough = (coughs >> i & 1) == 1;
                int minute = now.minute() + i + 1;
                mind.walk(pair, isCough ? 1 : mind.speakerIn(pair, minute));
            }
            return mind.cellOf(pair);
        }

        int kindsSo(int miner, Numbers row) {
            int bits = 0;
            for (int kind = 0; kind < KINDS; kind++) {
                think(0);
                mind.setKind(miner, kind);
                bits |= goesAsTold(miner / 2, row) ? 1 << kind : 0;
            }
            return bits;
        }

        int figuresSo(int miner, Numbers row) {
            int bits = 0;
            for (int figure = 0; figure <= FIGURE_MOST; figure++) {
                think(0);
                mind.setFigure(miner, figure);
                bits |= goesAsTold(miner / 2, row) ? 1 << figure : 0;
            }
            return bits;
        }

        private boolean goesAsTold(int pair, Numbers row) {
            if (row == null) {
                return true;
            }
            for (int n = 0; n < row.size(); n++) {
                if (mind.cellOf(pair) != row.at(n)) {
                    return false;
                }
                mind.pass(1);
            }
            return true;
        }

        int shiftsByLot(int n, int z, int what) {
            int seed = z;
            int faced = 0;
            int bruises = 0;
            for (int i = 0; i < n; i++) {
                think(0);
                for (int p = 0; p < mind.pairs(); p++) {
                    seed = nextSeed(seed);
                    mind.setCell(p, drawOf(seed, CELLS));
                    seed = nextSeed(seed);
                    mind.setToSay(p, drawOf(seed, LOT_TO_SAY));
                }
                mind.pass(SHIFT);
                faced += Integer.bitCount(mind.facedBits());
                bruises += mind.allBruises() - now.allBruises();
            }
            return what == 0 ? faced : bruises;
        }

        private static int nextSeed(int z) {
            return z * 1664525 + 1013904223;
        }

        private static int drawOf(int z, int below) {
            return below > 0 ? (z & 0x7fffffff) / 256 % below : 0;
        }
    }
}
