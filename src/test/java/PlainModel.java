import java.math.BigInteger;
import java.util.ArrayList;
import java.util.HashMap;
import java.util.List;
import java.util.Map;
import java.util.TreeMap;

/** The document's words done as plainly as can be, to compare the class with. */
final class PlainModel {
    static final class Crossing {
        int sign;
        int[] labels;

        Crossing(int sign, int... labels) {
            this.sign = sign;
            this.labels = labels;
        }
    }

    private static final List<TreeMap<Integer, BigInteger>> POWERS_OF_D = powersOfD();

    final List<Crossing> crossings = new ArrayList<>();
    int circleCount = 0;

    int crossing(int sign, int l0, int l1, int l2, int l3) {
        int[] labels = {l0, l1, l2, l3};
        for (int label : labels) {
            if (label < 1 || label > 99) {
                return -1;
            }
        }
        if (Math.abs((long) sign) != 1 || crossings.size() == 10) {
            return -1;
        }
        crossings.add(new Crossing(sign, labels));
        return crossings.size();
    }

    int circles(int n) {
        if (n < 0 || n > 9) {
            return -1;
        }
        int before = circleCount;
        circleCount = n;
        return before;
    }

    int clear() {
        int before = crossings.size();
        crossings.clear();
        circleCount = 0;
        return before;
    }

    int fault() {
        TreeMap<Integer, Integer> places = new TreeMap<>();
        for (Crossing c : crossings) {
            for (int label : c.labels) {
                places.merge(label, 1, Integer::sum);
            }
        }
        for (Map.Entry<Integer, Integer> e : places.entrySet()) {
            if (e.getValue() != 2) {
                return e.getKey();
            }
        }
        return 0;
    }

    int sweep(int k) {
        if (!there(k) || fault() != 0) {
            return -1;
        }
        List<Crossing> rest = new ArrayList<>(crossings);
        List<Crossing> gone = new ArrayList<>();
        gone.add(rest.remove(k));
        int most = labelsAtOnePlace(gone);
        while (!rest.isEmpty()) {
            int best = 0;
            for (int i = 1; i < rest.size(); i++) {
                if (placesOn(rest.get(i), gone) > placesOn(rest.get(best), gone)) {
                    best = i;
                }
            }
            gone.add(rest.remove(best));
            most = Math.max(most, labelsAtOnePlace(gone));
        }
        return most;
    }

    private static int placesOn(Crossing c, List<Crossing> gone) {
        int places = 0;
        for (int label : c.labels) {
            places += timesOn(label, gone) > 0 ? 1 : 0;
        }
        return places;
    }

    private static int timesOn(int label, List<Crossing> gone) {
        int times = 0;
        for (Crossing c : gone) {
            for (int other : c.labels) {
                times += other == label ? 1 : 0;
            }
        }
        return times;
    }

    private static int labelsAtOnePlace(List<Crossing> gone) {
        int labels = 0;
        for (int label = 1; label <= 99; label++) {
            labels += timesOn(label, gone) == 1 ? 1 : 0;
        }
        return labels;
    }

    int state(int mask) {
        if (fault() != 0 || mask < 0 || mask >= Math.pow(2, crossings.size())) {
            return -1;
        }
        return circlesOf(mask);
    }

    /** Connected parts of the places, joined by labels and by smoothings, and the circles. */
    private int circlesOf(int mask) {
        int n = crossings.size();
        int[] part = new int[4 * n];
        int parts = 4 * n;
        for (int i = 0; i < part.length; i++) {
            part[i] = i;
        }
        for (int i = 0; i < part.length; i++) {
            for (int j = 0; j < i; j++) {
                if (joined(i, j, mask) && part[i] != part[j]) {
                    int from = part[i];
                    int to = part[j];
                    for (int m = 0; m < part.length; m++) {
                        part[m] = part[m] == from ? to : part[m];
                    }
                    parts--;
                }
            }
        }
        return parts + circleCount;
    }

    private boolean joined(int i, int j, int mask) {
        if (label(i) == label(j)) {
            return true;
        }
        if (i / 4 != j / 4) {
            return false;
        }
        boolean byB = (mask / (1 << i / 4)) % 2 == 1;
        int high = i % 4;
        int low = j % 4;
        if (byB) {
            return low == 1 && high == 2 || low == 0 && high == 3;
        }
        return low == 0 && high == 1 || low == 2 && high == 3;
    }

    private int label(int place) {
        return crossings.get(place / 4).labels[place % 4];
    }

    TreeMap<Integer, BigInteger> bracket() {
        TreeMap<Integer, BigInteger> sum = new TreeMap<>();
        if (fault() != 0) {
            return sum;
        }
        if (crossings.isEmpty() && circleCount == 0) {
            sum.put(0, BigInteger.ONE);
            return sum;
        }
        int n = crossings.size();
        // Equal terms are counted first: a state's term is told by its power of A and its circles.
        Map<List<Integer>, Integer> terms = new HashMap<>();
        for (int mask = 0; mask < 1 << n; mask++) {
            int power = n - 2 * Integer.bitCount(mask);
            terms.merge(List.of(power, circlesOf(mask) - 1), 1, Integer::sum);
        }
        for (Map.Entry<List<Integer>, Integer> term : terms.entrySet()) {
            BigInteger times = BigInteger.valueOf(term.getValue());
            int power = term.getKey().get(0);
            TreeMap<Integer, BigInteger> factor = POWERS_OF_D.get(term.getKey().get(1));
            for (Map.Entry<Integer, BigInteger> e : factor.entrySet()) {
                sum.merge(e.getKey() + power, e.getValue().multiply(times), BigInteger::add);
            }
        }
        sum.values().removeIf(c -> c.signum() == 0);
        return sum;
    }

    TreeMap<Integer, BigInteger> jones() {
        int w = look(-1, 2);
        TreeMap<Integer, BigInteger> out = new TreeMap<>();
        for (Map.Entry<Integer, BigInteger> e : bracket().entrySet()) {
            out.put(e.getKey() - 3 * w, w % 2 == 0 ? e.getValue() : e.getValue().negate());
        }
        return out;
    }

    private static List<TreeMap<Integer, BigInteger>> powersOfD() {
        List<TreeMap<Integer, BigInteger>> powers = new ArrayList<>();
        TreeMap<Integer, BigInteger> power = new TreeMap<>();
        power.put(0, BigInteger.ONE);
        for (int i = 0; i < 40; i++) {
            powers.add(power);
            TreeMap<Integer, BigInteger> next = new TreeMap<>();
            for (Map.Entry<Integer, BigInteger> e : power.entrySet()) {
                next.merge(e.getKey() + 2, e.getValue().negate(), BigInteger::add);
                next.merge(e.getKey() - 2, e.getValue().negate(), BigInteger::add);
            }
            power = next;
        }
        return powers;
    }

    int look(int k, int what) {
        if (k == -1 && what == 0) {
            return crossings.size();
        }
        if (k == -1 && what == 1) {
            return circleCount;
        }
        if (k == -1 && what == 2) {
            return crossings.stream().mapToInt(c -> c.sign).sum();
        }
        if (!there(k) || what < 0 || what > 4) {
            return -1000;
        }
        return what == 4 ? crossings.get(k).sign : crossings.get(k).labels[what];
    }

    boolean resolve(int k, boolean a) {
        if (!there(k) || fault() != 0) {
            return false;
        }
        List<Crossing> before = new ArrayList<>();
        for (Crossing c : crossings) {
            before.add(new Crossing(c.sign, c.labels.clone()));
        }
        int circlesBefore = circleCount;
        int[] own = crossings.get(k).labels;
        joinPlaces(own, a ? 0 : 1, a ? 1 : 2);
        joinPlaces(own, a ? 2 : 3, a ? 3 : 0);
        crossings.remove(k);
        if (circleCount > 9) {
            crossings.clear();
            crossings.addAll(before);
            circleCount = circlesBefore;
            return false;
        }
        return true;
    }

    private void joinPlaces(int[] own, int place, int other) {
        int p = own[place];
        int q = own[other];
        if (p == q) {
            circleCount++;
            return;
        }
        for (Crossing c : crossings) {
            for (int i = 0; i < 4; i++) {
                if (c.labels[i] == p || c.labels[i] == q) {
                    c.labels[i] = Math.min(p, q);
                }
            }
        }
    }

    boolean change(int k) {
        if (!there(k)) {
            return false;
        }
        Crossing c = crossings.get(k);
        c.labels = new int[] {c.labels[1], c.labels[2], c.labels[3], c.labels[0]};
        c.sign = -c.sign;
        return true;
    }

    boolean move(int k, int j) {
        if (!there(k) || !there(j)) {
            return false;
        }
        crossings.add(j, crossings.remove(k));
        return true;
    }

    private boolean there(int k) {
        return k >= 0 && k < crossings.size();
    }
}
