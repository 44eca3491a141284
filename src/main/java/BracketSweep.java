import java.util.Arrays;

/**
 * Kauffman's bracket of a diagram that is given crossing by crossing, and its Jones polynomial:
 * exact, with any order of the crossings; the states it is a sum of are told one by one, too.
 *
 * <p>Every row is made once, with the object, and used again by each call.
 */
public final class BracketSweep {
    private static final int MOST_CROSSINGS = 10;
    private static final int MOST_CIRCLES = 9;
    private static final int GREATEST_LABEL = 99;
    private static final int PLACES = 4;
    private static final int MOST_PLACES = PLACES * MOST_CROSSINGS;

    /** A closed way of a state takes at least one of two smoothing joints of some crossing. */
    private static final int MOST_STATE_CIRCLES = 2 * MOST_CROSSINGS + MOST_CIRCLES;
    private static final int TALLY_WIDTH = MOST_STATE_CIRCLES + 1;

    /** No exponent of a bracket is further from 0: the smoothings' own, and 2 for each factor d. */
    private static final int REACH = MOST_CROSSINGS + 2 * (MOST_STATE_CIRCLES - 1);

    private static final int NO_ANSWER = -1;
    private static final int NOTHING_TO_LOOK_AT = -1000;

    /** The label at place p of crossing k stands at PLACES * k + p. */
    private final int[] labels = new int[MOST_PLACES];
    private final int[] signs = new int[MOST_CROSSINGS];
    private int crossingCount = 0;
    private int circleCount = 0;

    /** The order in which the crossings are gone over when the bracket is worked out. */
    private final int[] order = new int[MOST_CROSSINGS];

    /** At how many places a label stands, of all crossings or of those gone over. */
    private final int[] standing = new int[GREATEST_LABEL + 1];
    private final boolean[] goneOver = new boolean[MOST_CROSSINGS];

    /** How many states smooth so many crossings by A (row) and have so many circles (column). */
    private final int[] tally = new int[(MOST_CROSSINGS + 1) * TALLY_WIDTH];
    private final Ways ways = new Ways();
    private final Polynomial sum = new Polynomial();
    private boolean workedOut = false;

    public BracketSweep() {
        orderAsGiven();
    }

    public int crossing(int sign, int l0, int l1, int l2, int l3) {
        if (sign != 1 && sign != -1) {
            return NO_ANSWER;
        }
        if (!isLabel(l0) || !isLabel(l1) || !isLabel(l2) || !isLabel(l3)) {
            return NO_ANSWER;
        }
        if (crossingCount >= MOST_CROSSINGS) {
            return NO_ANSWER;
        }
        int start = PLACES * crossingCount;
        labels[start] = l0;
        labels[start + 1] = l1;
        labels[start + 2] = l2;
        labels[start + 3] = l3;
        signs[crossingCount] = sign;
        crossingCount++;
        orderAsGiven();
        return crossingCount;
    }

    public int circles(int n) {
        if (n < 0 || n > MOST_CIRCLES) {
            return NO_ANSWER;
        }
        int before = circleCount;
        circleCount = n;
        workedOut = false;
        return before;
    }

    public int clear() {
        int before = crossingCount;
        crossingCount = 0;
        circleCount = 0;
        orderAsGiven();
        return before;
    }

    public int fault() {
        countStanding();
        for (int label = 1; label <= GREATEST_LABEL; label++) {
            if (standing[label] != 0 && standing[label] != 2) {
                return label;
            }
        }
        return 0;
    }

    public int sweep(int k) {
        if (!isCrossing(k) || !isCode()) {
            return NO_ANSWER;
        }
        goOverNone();
        int open = 0;
        int mostOpen = 0;
        for (int step = 0; step < crossingCount; step++) {
            int next = step == 0 ? k : mostJoined();
            open += goOver(next);
            mostOpen = Math.max(mostOpen, open);
            order[step] = next;
        }
        workedOut = false;
        return mostOpen;
    }

    public long bracket(int exponent) {
        workOut();
        return sum.at(exponent);
    }

    public long jones(int exponent) {
        workOut();
        int signSum = sumOfSigns();
        // As a long: the shift must not carry an exponent at int's edge round to the other edge.
        long coefficient = sum.at(exponent + 3L * signSum);
        return (signSum & 1) == 0 ? coefficient : -coefficient;
    }

    public int span(boolean jones, boolean high) {
        workOut();
        if (sum.isZero()) {
            return 0;
        }
        int exponent = high ? sum.greatest() : sum.least();
        return jones ? exponent - 3 * sumOfSigns() : exponent;
    }

    public int state(int mask) {
        if (mask < 0 || mask >= 1 << crossingCount || !isCode()) {
            return NO_ANSWER;
        }
        ways.followLabels(labels, PLACES * crossingCount);
        int found = circleCount;
        for (int k = 0; k < crossingCount; k++) {
            boolean byA = (mask >> k & 1) == 0;
            found += ways.smooth(k, byA);
        }
        return found;
    }

    public int look(int k, int what) {
        if (k == -1) {
            return lookAtAll(what);
        }
        if (!isCrossing(k)) {
            return NOTHING_TO_LOOK_AT;
        }
        if (what >= 0 && what < PLACES) {
            return labels[PLACES * k + what];
        }
        return what == PLACES ? signs[k] : NOTHING_TO_LOOK_AT;
    }

    public boolean resolve(int k, boolean a) {
        if (!isCrossing(k) || !isCode()) {
            return false;
        }
        int start = PLACES * k;
        int turn = a ? 0 : 1;
        int p = labels[start + turn];
        int q = labels[start + turn + 1];
        int r = renamed(labels[start + turn + 2], p, q);
        int s = renamed(labels[start + (turn + 3) % PLACES], p, q);
        int closed = (p == q ? 1 : 0) + (r == s ? 1 : 0);
        if (circleCount + closed > MOST_CIRCLES) {
            return false;
        }
        unite(p, q);
        unite(r, s);
        circleCount += closed;
        carry(k, crossingCount - 1);
        crossingCount--;
        orderAsGiven();
        return true;
    }

    public boolean change(int k) {
        if (!isCrossing(k)) {
            return false;
        }
        int start = PLACES * k;
        int first = labels[start];
        labels[start] = labels[start + 1];
        labels[start + 1] = labels[start + 2];
        labels[start + 2] = labels[start + 3];
        labels[start + 3] = first;
        signs[k] = -signs[k];
        orderAsGiven();
        return true;
    }

    public boolean move(int k, int j) {
        if (!isCrossing(k) || !isCrossing(j)) {
            return false;
        }
        carry(k, j);
        orderAsGiven();
        return true;
    }

    private static boolean isLabel(int label) {
        return label >= 1 && label <= GREATEST_LABEL;
    }

    private boolean isCrossing(int k) {
        return k >= 0 && k < crossingCount;
    }

    private boolean isCode() {
        return fault() == 0;
    }

    private void orderAsGiven() {
        for (int i = 0; i < MOST_CROSSINGS; i++) {
            order[i] = i;
        }
        workedOut = false;
    }

    private void countStanding() {
        Arrays.fill(standing, 0);
        for (int place = 0; place < PLACES * crossingCount; place++) {
            standing[labels[place]]++;
        }
    }

    private int sumOfSigns() {
        int signSum = 0;
        for (int k = 0; k < crossingCount; k++) {
            signSum += signs[k];
        }
        return signSum;
    }

    private int lookAtAll(int what) {
        switch (what) {
            case 0:
                return crossingCount;
            case 1:
                return circleCount;
            case 2:
                return sumOfSigns();
            default:
                return NOTHING_TO_LOOK_AT;
        }
    }

    private void goOverNone() {
        Arrays.fill(standing, 0);
        for (int k = 0; k < MOST_CROSSINGS; k++) {
            goneOver[k] = false;
        }
    }

    /** Of the crossings not gone over, the first with the most places on those gone over. */
    private int mostJoined() {
        int best = 0;
        int bestJoined = -1;
        for (int k = 0; k < crossingCount; k++) {
            int joined = goneOver[k] ? -1 : placesJoined(k);
            if (joined > bestJoined) {
                best = k;
                bestJoined = joined;
            }
        }
        return best;
    }

    private int placesJoined(int k) {
        int joined = 0;
        for (int place = PLACES * k; place < PLACES * (k + 1); place++) {
            if (standing[labels[place]] > 0) {
                joined++;
            }
        }
        return joined;
    }

    /** Goes over crossing k: by how much the labels that stand at just one place grow. */
    private int goOver(int k) {
        int growth = 0;
        for (int place = PLACES * k; place < PLACES * (k + 1); place++) {
            standing[labels[place]]++;
            growth += standing[labels[place]] == 1 ? 1 : -1;
        }
        goneOver[k] = true;
        return growth;
    }

    private static int renamed(int label, int p, int q) {
        return label == Math.max(p, q) ? Math.min(p, q) : label;
    }

    private void unite(int p, int q) {
        for (int place = 0; place < PLACES * crossingCount; place++) {
            labels[place] = renamed(labels[place], p, q);
        }
    }

    private void carry(int from, int to) {
        for (int k = from; k < to; k++) {
            swapWithNext(k);
        }
        for (int k = from; k > to; k--) {
            swapWithNext(k - 1);
        }
    }

    private void swapWithNext(int k) {
        int sign = signs[k];
        signs[k] = signs[k + 1];
        signs[k + 1] = sign;
        for (int place = PLACES * k; place < PLACES * (k + 1); place++) {
            int label = labels[place];
            labels[place] = labels[place + PLACES];
            labels[place + PLACES] = label;
        }
    }

    /** Makes sum the bracket; 0 when there is no code. */
    private void workOut() {
        if (workedOut) {
            return;
        }
        sum.setZero();
        if (isCode()) {
            tallyStates();
            sumTally();
        }
        workedOut = true;
    }

    private void tallyStates() {
        Arrays.fill(tally, 0);
        ways.followLabels(labels, PLACES * crossingCount);
        // Nothing at all has the bracket 1, just as one circle has.
        boolean nothing = crossingCount == 0 && circleCount == 0;
        tallyFrom(this, 0, 0, nothing ? 1 : circleCount);
    }

    /** Tallies all states that go on from the crossings smoothed before this step. */
    private static void tallyFrom(BracketSweep of, int step, int byA, int found) {
        if (step >= of.crossingCount) {
            of.tally[byA * TALLY_WIDTH + found]++;
            return;
        }
        int k = of.order[step];
        int closedByA = of.ways.smooth(k, true);
        tallyFrom(of, step + 1, byA + 1, found + closedByA);
        of.ways.undo(k, true);
        int closedByB = of.ways.smooth(k, false);
        tallyFrom(of, step + 1, byA, found + closedByB);
        of.ways.undo(k, false);
    }

    /** Horner's way: states with more circles are multiplied by d more often. */
    private void sumTally() {
        for (int found = MOST_STATE_CIRCLES; found >= 1; found--) {
            if (!sum.isZero()) {
                sum.timesD();
            }
            for (int byA = 0; byA <= crossingCount; byA++) {
                sum.add(2 * byA - crossingCount, tally[byA * TALLY_WIDTH + found]);
            }
        }
    }

    /** The ways that labels and smoothings make; a place is told by its index in labels. */
    private static final class Ways {
        /** For each end of an open way the other end; for a joined place, what it was before. */
        private final int[] otherEnd = new int[MOST_PLACES];
        private final int[] firstPlace = new int[GREATEST_LABEL + 1];

        /** Begins anew: each label of a code is a way between its two places. */
        void followLabels(int[] labels, int places) {
            Arrays.fill(firstPlace, -1);
            for (int place = 0; place < places; place++) {
                int first = firstPlace[labels[place]];
                if (first < 0) {
                    firstPlace[labels[place]] = place;
                } else {
                    otherEnd[first] = place;
                    otherEnd[place] = first;
                }
            }
        }

        /** How many ways are closed by it. */
        int smooth(int k, boolean byA) {
            int start = PLACES * k;
            if (byA) {
                return join(start, start + 1) + join(start + 2, start + 3);
            }
            return join(start + 1, start + 2) + join(start + 3, start);
        }

        /** Takes the smoothing that was made last, which was of crossing k, back. */
        void undo(int k, boolean byA) {
            int start = PLACES * k;
            if (byA) {
                part(start + 2, start + 3);
                part(start, start + 1);
            } else {
                part(start + 3, start);
                part(start + 1, start + 2);
            }
        }

        private int join(int p, int q) {
            if (otherEnd[p] == q) {
                return 1;
            }
            int farFromP = otherEnd[p];
            int farFromQ = otherEnd[q];
            otherEnd[farFromP] = farFromQ;
            otherEnd[farFromQ] = farFromP;
            return 0;
        }

        /** join left p and q themselves as they were, so their far ends are still known. */
        private void part(int p, int q) {
            otherEnd[otherEnd[p]] = p;
            otherEnd[otherEnd[q]] = q;
        }
    }

    /** A polynomial in A with exponents from -REACH to REACH. */
    private static final class Polynomial {
        private long[] row = new long[2 * REACH + 1];
        private long[] spare = new long[2 * REACH + 1];

        void setZero() {
            Arrays.fill(row, 0L);
        }

        long at(long exponent) {
            return exponent < -REACH || exponent > REACH ? 0L : row[(int) exponent + REACH];
        }

        void add(int exponent, long coefficient) {
            if (exponent >= -REACH && exponent <= REACH) {
                row[exponent + REACH] += coefficient;
            }
        }

        /** Times d = - A^2 - A^-2. */
        void timesD() {
            for (int exponent = -REACH; exponent <= REACH; exponent++) {
                spare[exponent + REACH] = -at(exponent - 2) - at(exponent + 2);
            }
            long[] product = spare;
            spare = row;
            row = product;
        }

        boolean isZero() {
            return row[least() + REACH] == 0L;
        }

        /** The least exponent there is; 0 of the polynomial 0. */
        int least() {
            for (int exponent = -REACH; exponent <= REACH; exponent++) {
                if (row[exponent + REACH] != 0L) {
                    return exponent;
                }
            }
            return 0;
        }

        /** The greatest exponent there is; 0 of the polynomial 0. */
        int greatest() {
            for (int exponent = REACH; exponent >= -REACH; exponent--) {
                if (row[exponent + REACH] != 0L) {
                    return exponent;
                }
            }
            return 0;
        }
    }
}
