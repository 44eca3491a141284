import java.math.BigInteger;
import java.util.ArrayList;
import java.util.Collections;
import java.util.List;
import java.util.Random;
import java.util.TreeMap;

/** Long runs of calls, right and wrong ones, whose every answer is compared with the plain model's. */
public final class PlainModelTest {
    private static final int RUNS = 200;

    /** Under 512 by as many calls as one step may make. */
    private static final int CALLS = 500;
    private static final int[] EDGES = {
        Integer.MIN_VALUE, Integer.MIN_VALUE + 1, Integer.MIN_VALUE + 30, -1000, -2, -1,
        1000, Integer.MAX_VALUE - 30, Integer.MAX_VALUE - 1, Integer.MAX_VALUE
    };

    private final Check check;
    private final Random random;
    private final int run;
    private final BracketSweep real = new BracketSweep();
    private final PlainModel model = new PlainModel();
    private int calls = 0;
    private TreeMap<Integer, BigInteger> bracket = null;
    private TreeMap<Integer, BigInteger> jones = null;

    private PlainModelTest(Check check, int run) {
        this.check = check;
        this.run = run;
        this.random = new Random(run);
    }

    public static void main(String[] args) {
        Check all = new Check();
        for (int run = 0; run < RUNS; run++) {
            new PlainModelTest(all, run).play();
        }
        all.end();
    }

    private void play() {
        while (calls < CALLS) {
            step();
        }
    }

    private void due(String call, long got, long want) {
        calls++;
        check.due("run " + run + ", call " + calls + ": " + call, got, want);
    }

    private void due(String call, boolean got, boolean want) {
        due(call, got ? 1 : 0, want ? 1 : 0);
    }

    private void changed() {
        bracket = null;
        jones = null;
    }

    private void step() {
        int kind = random.nextInt(100);
        if (kind < 2) {
            giveCode();
        } else if (kind < 8) {
            int n = random.nextInt(4) == 0 ? number(-2, 12) : random.nextInt(10);
            due("circles(" + n + ")", real.circles(n), model.circles(n));
            changed();
        } else if (kind < 9) {
            due("clear()", real.clear(), model.clear());
            changed();
        } else if (kind < 12) {
            oneCrossing();
        } else if (kind < 30) {
            changeSomething();
        } else {
            askSomething(kind);
        }
    }

    private void changeSomething() {
        int k = index();
        switch (random.nextInt(6)) {
            case 0:
                boolean a = random.nextBoolean();
                due("resolve(" + k + ", " + a + ")", real.resolve(k, a), model.resolve(k, a));
                break;
            case 1:
            case 2:
                due("change(" + k + ")", real.change(k), model.change(k));
                break;
            default:
                int j = index();
                due("move(" + k + ", " + j + ")", real.move(k, j), model.move(k, j));
                break;
        }
        changed();
    }

    private void askSomething(int kind) {
        if (kind < 34) {
            due("fault()", real.fault(), model.fault());
        } else if (kind < 42) {
            int k = index();
            due("sweep(" + k + ")", real.sweep(k), model.sweep(k));
        } else if (kind < 55) {
            int e = exponent(brackets());
            due("bracket(" + e + ")", real.bracket(e), coefficient(brackets(), e));
        } else if (kind < 68) {
            int e = exponent(joneses());
            due("jones(" + e + ")", real.jones(e), coefficient(joneses(), e));
        } else if (kind < 76) {
            askSpan();
        } else if (kind < 88) {
            int mask = number(0, (1 << random.nextInt(11)) - 1);
            due("state(" + mask + ")", real.state(mask), model.state(mask));
        } else {
            int k = random.nextInt(3) == 0 ? -1 : index();
            int what = number(-1, 5);
            due("look(" + k + ", " + what + ")", real.look(k, what), model.look(k, what));
        }
    }

    private void askSpan() {
        boolean ofJones = random.nextBoolean();
        boolean high = random.nextBoolean();
        TreeMap<Integer, BigInteger> p = ofJones ? joneses() : brackets();
        int want = p.isEmpty() ? 0 : high ? p.lastKey() : p.firstKey();
        due("span(" + ofJones + ", " + high + ")", real.span(ofJones, high), want);
    }

    private TreeMap<Integer, BigInteger> brackets() {
        if (bracket == null) {
            bracket = model.bracket();
        }
        return bracket;
    }

    private TreeMap<Integer, BigInteger> joneses() {
        if (jones == null) {
            jones = model.jones();
        }
        return jones;
    }

    private static long coefficient(TreeMap<Integer, BigInteger> p, int exponent) {
        return p.getOrDefault(exponent, BigInteger.ZERO).longValueExact();
    }

    private int exponent(TreeMap<Integer, BigInteger> p) {
        if (p.isEmpty() || random.nextInt(4) == 0) {
            return number(-110, 110);
        }
        List<Integer> exponents = new ArrayList<>(p.keySet());
        return exponents.get(random.nextInt(exponents.size()));
    }

    private int index() {
        int n = model.crossings.size();
        return n > 0 && random.nextInt(8) != 0 ? random.nextInt(n) : number(-2, 12);
    }

    private int number(int least, int greatest) {
        if (random.nextInt(20) == 0) {
            return EDGES[random.nextInt(EDGES.length)];
        }
        return least + random.nextInt(greatest - least + 1);
    }

    private void give(int sign, int l0, int l1, int l2, int l3) {
        String call = "crossing(" + sign + ", " + l0 + ", " + l1 + ", " + l2 + ", " + l3 + ")";
        due(call, real.crossing(sign, l0, l1, l2, l3), model.crossing(sign, l0, l1, l2, l3));
        changed();
    }

    /** Few labels, so that some stand at two places, and at more than two. */
    private void oneCrossing() {
        int sign = random.nextInt(5) == 0 ? number(-3, 3) : random.nextInt(2) * 2 - 1;
        int greatest = random.nextInt(4) == 0 ? 100 : 6;
        int least = random.nextInt(10) == 0 ? 0 : 1;
        give(sign, number(least, greatest), number(least, greatest),
            number(least, greatest), number(least, greatest));
    }

    /** Any pairing of the places; with few swaps, one that is near a row of kinks. */
    private void giveCode() {
        due("clear()", real.clear(), model.clear());
        changed();
        int n = random.nextInt(4) == 0 ? 10 : random.nextInt(11);
        List<Integer> names = new ArrayList<>();
        for (int label = 1; label <= 99; label++) {
            names.add(label);
        }
        Collections.shuffle(names, random);
        List<Integer> places = new ArrayList<>();
        for (int i = 0; i < 2 * n; i++) {
            places.add(names.get(i));
            places.add(names.get(i));
        }
        int swaps = random.nextInt(3) == 0 ? random.nextInt(4) : 100;
        for (int i = 0; i < swaps && n > 0; i++) {
            Collections.swap(places, random.nextInt(4 * n), random.nextInt(4 * n));
        }
        for (int k = 0; k < n; k++) {
            int sign = random.nextInt(2) * 2 - 1;
            give(sign, places.get(4 * k), places.get(4 * k + 1),
                places.get(4 * k + 2), places.get(4 * k + 3));
        }
    }
}
