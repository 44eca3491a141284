import java.util.LinkedHashMap;
import java.util.List;
import java.util.Map;
import java.util.function.Predicate;
import java.util.function.Supplier;
import java.util.function.ToLongFunction;

/** What the tests of the boundary cases have in common. */
abstract class Boundaries {
    static final int LEAST = Integer.MIN_VALUE;
    static final int GREATEST = Integer.MAX_VALUE;

    /** No crossing's number, ever; four times some of them wraps round to a small number. */
    static final int[] NEVER_A_CROSSING = {
        LEAST, LEAST + 1, -1 << 30, -65536, -256, -10, -2, 10, 11, 256, 65536,
        1 << 29, 1 << 30, (1 << 30) + 1, GREATEST - 1, GREATEST
    };

    final Check check = new Check();

    /** Objects at the edges: empty, full, with a code and without, a name for each. */
    static Map<String, Supplier<BracketSweep>> objects() {
        Map<String, Supplier<BracketSweep>> objects = new LinkedHashMap<>();
        objects.put("empty", BracketSweep::new);
        objects.put("nine circles", () -> Diagrams.circlesAlone(9));
        objects.put("a kink", () -> Diagrams.kinks(1, true, 1));
        objects.put("figure eight", Diagrams::figureEight);
        objects.put("full", Boundaries::full);
        objects.put("no code", Boundaries::noCode);
        objects.put("full, no code", Boundaries::fullNoCode);
        return objects;
    }

    /** Ten crossings with a code, and nine circles. */
    static BracketSweep full() {
        BracketSweep x = Diagrams.torus(10);
        x.circles(9);
        return x;
    }

    /** Label 9 stands at one place, and 8 at three. */
    static BracketSweep noCode() {
        BracketSweep x = Diagrams.trefoil();
        x.crossing(1, 8, 8, 8, 9);
        x.circles(3);
        return x;
    }

    /** Ten crossings, nine circles; each of the labels 60 .. 99 stands at one place. */
    static BracketSweep fullNoCode() {
        BracketSweep x = new BracketSweep();
        for (int k = 0; k < 10; k++) {
            int label = 60 + 4 * k;
            x.crossing(k % 3 == 0 ? -1 : 1, label, label + 1, label + 2, label + 3);
        }
        x.circles(9);
        return x;
    }

    /**
     * The call is answered so, and the object tells what one tells that was not called; whether
     * its bracket was kept from before, and whether it was swept, makes no difference.
     */
    void refused(String call, Supplier<BracketSweep> object,
            ToLongFunction<BracketSweep> made, long answer) {
        List<String> before = Picture.of(object.get());
        for (int i = 0; i < 3; i++) {
            BracketSweep x = object.get();
            if (i > 0) {
                x.bracket(0);
            }
            if (i > 1) {
                x.sweep(x.look(-1, 0) - 1);
            }
            check.due(call, made.applyAsLong(x), answer);
            same(call + " is refused, but then", Picture.of(x), before);
        }
    }

    void refused(String call, Supplier<BracketSweep> object, Predicate<BracketSweep> made) {
        refused(call, object, x -> made.test(x) ? 1 : 0, 0);
    }

    /**
     * The call is taken, and what the object tells then does not hang on what it was asked
     * before: its bracket was kept, and it was swept, from the last crossing or from the first.
     */
    void taken(String call, Supplier<BracketSweep> object, ToLongFunction<BracketSweep> made,
            long answer) {
        BracketSweep unasked = object.get();
        check.due(call, made.applyAsLong(unasked), answer);
        List<String> want = Picture.of(unasked);
        for (int i = 0; i < 2; i++) {
            BracketSweep x = object.get();
            x.sweep(i == 0 ? 0 : x.look(-1, 0) - 1);
            x.bracket(0);
            check.due(call, made.applyAsLong(x), answer);
            same(call + " after it was asked, then", Picture.of(x), want);
        }
    }

    void taken(String call, Supplier<BracketSweep> object, Predicate<BracketSweep> made) {
        taken(call, object, x -> made.test(x) ? 1 : 0, 1);
    }

    void same(String call, List<String> got, List<String> want) {
        check.due(call + ": rows", got.size(), want.size());
        for (int i = 0; i < Math.min(got.size(), want.size()); i++) {
            check.due(call + ": " + got.get(i) + ", due is " + want.get(i),
                got.get(i).equals(want.get(i)), true);
        }
    }

    void dueCrossing(String call, BracketSweep x, int k, int sign, int... labels) {
        check.due(call + ": look(" + k + ", 4)", x.look(k, 4), sign);
        for (int place = 0; place < 4; place++) {
            check.due(call + ": look(" + k + ", " + place + ")", x.look(k, place), labels[place]);
        }
    }
}
