import java.util.List;
import java.util.Map;
import java.util.function.Supplier;

/** The boundary cases of promises 6 to 10, what is asked of a code, and of the 512 calls. */
public final class BoundariesOfAskingTest extends Boundaries {
    private static final int[] FAR_EXPONENTS = {
        LEAST, LEAST + 1, LEAST + 30, LEAST + 66, -65536, -1000, -100, -97,
        97, 100, 1000, 65536, GREATEST - 66, GREATEST - 30, GREATEST - 29, GREATEST
    };

    public static void main(String[] args) {
        BoundariesOfAskingTest test = new BoundariesOfAskingTest();
        test.sweepFromTheFirstAndTheLast();
        test.sweepFromNoCrossing();
        test.sweepWithoutCode();
        test.sweepGoesOnByMostPlaces();
        test.sweepCountsNoPlaceTwice();
        test.sweepTakesTheFirstOfSeveral();
        test.sweepTellsTheGreatestWheneverItWas();
        test.sweepOfParts();
        test.sweepLeavesTheCrossings();
        test.bracketOfNothing();
        test.bracketOfSoManyCircles();
        test.bracketAtItsOutermostExponents();
        test.bracketFarOutside();
        test.bracketWithoutCode();
        test.bracketOfACodeThatComesAndGoes();
        test.jonesOfEverySumOfSigns();
        test.jonesAtItsOutermostExponents();
        test.jonesFarOutside();
        test.spanOfNothingAndOfOneTerm();
        test.spanAtItsGreatest();
        test.spanWithoutCode();
        test.stateOfTheFirstAndTheLastMask();
        test.stateOfNoMask();
        test.stateWithoutCode();
        test.stateAtItsLeastAndGreatest();
        test.labelsAtTheirEdges();
        test.callsUpToTheLast();
        test.check.end();
    }

    /** 6: "-1 when there is no such crossing". */
    private void sweepFromTheFirstAndTheLast() {
        check.due("6: one crossing", Diagrams.torus(1).sweep(0), 0);
        for (int n = 2; n <= 10; n++) {
            check.due("6: of " + n + " the first", Diagrams.torus(n).sweep(0), 4);
            check.due("6: of " + n + " the last", Diagrams.torus(n).sweep(n - 1), 4);
            int past = n;
            refused("6: of " + n + " the next", () -> Diagrams.torus(past),
                x -> x.sweep(past), -1);
        }
    }

    private void sweepFromNoCrossing() {
        for (Map.Entry<String, Supplier<BracketSweep>> object : objects().entrySet()) {
            String name = "6: " + object.getKey();
            refused(name + ", sweep(-1)", object.getValue(), x -> x.sweep(-1), -1);
            refused(name + ", sweep(n)", object.getValue(), x -> x.sweep(x.look(-1, 0)), -1);
            for (int k : NEVER_A_CROSSING) {
                refused(name + ", sweep(" + k + ")", object.getValue(), x -> x.sweep(k), -1);
            }
        }
    }

    /** 6: "or no code". */
    private void sweepWithoutCode() {
        for (int k = 0; k < 4; k++) {
            int from = k;
            refused("6: no code, sweep(" + k + ")", Boundaries::noCode, x -> x.sweep(from), -1);
        }
        for (int k = 0; k < 10; k++) {
            int from = k;
            refused("6: full, no code, sweep(" + k + ")", Boundaries::fullNoCode,
                x -> x.sweep(from), -1);
        }
    }

    /** 6: "each next one the one with the most places whose labels stand on those gone over". */
    private void sweepGoesOnByMostPlaces() {
        BracketSweep x = new BracketSweep();
        x.crossing(1, 1, 2, 3, 4);
        x.crossing(1, 1, 5, 6, 7);
        x.crossing(1, 2, 3, 4, 8);
        x.crossing(1, 5, 6, 7, 8);
        // From 0, four; 2 with three places, then two; 1 (as 3 has no more), then four; 3.
        check.due("6: three places before one", x.sweep(0), 4);
        x.move(2, 1);
        check.due("6: three places, being first, too", x.sweep(0), 4);
    }

    /** A label that has both places at a crossing not gone over stands on none gone over. */
    private void sweepCountsNoPlaceTwice() {
        BracketSweep x = new BracketSweep();
        x.crossing(1, 1, 2, 8, 8);
        x.crossing(1, 2, 3, 4, 5);
        x.crossing(1, 1, 9, 9, 3);
        x.crossing(1, 4, 5, 6, 6);
        // From 0, two; 1 and 2 have one place each: 1, then 1, 3, 4, 5 stand at one place.
        check.due("6: 9 is no place upon 0", x.sweep(0), 4);
    }

    /** 6: "of several, the first as they were given". */
    private void sweepTakesTheFirstOfSeveral() {
        BracketSweep x = Diagrams.tieOfTwo();
        check.due("6: the first opens more", x.sweep(2), 4);
        check.due("6: asked again", x.sweep(2), 4);
        x.move(0, 1);
        check.due("6: the first opens less", x.sweep(2), 2);
        x.move(1, 0);
        check.due("6: as they were given at first", x.sweep(2), 4);
    }

    /** 6: "the greatest number of labels that stood at just one place .., whenever it was." */
    private void sweepTellsTheGreatestWheneverItWas() {
        check.due("6: at the first crossing", Diagrams.trefoil().sweep(0), 4);
        // From 2, two; 0, then four; 1, then two; 3, then none.
        check.due("6: in the midst", Diagrams.tieOfTwo().sweep(2), 4);
        BracketSweep late = new BracketSweep();
        late.crossing(1, 1, 1, 2, 3);
        late.crossing(1, 2, 4, 4, 3);
        late.crossing(1, 5, 6, 7, 8);
        late.crossing(1, 8, 7, 6, 5);
        check.due("6: at the last but one", late.sweep(0), 4);
        late.resolve(3, true);
        // 5 with 6 and 7 with 8 were joined: 5 and 7 stand at two places of the crossing each.
        check.due("6: at the first, of fewer", late.sweep(0), 2);
    }

    private void sweepOfParts() {
        for (int k = 0; k < 10; k++) {
            check.due("6: ten kinks, from " + k, Diagrams.kinks(10, true, 1).sweep(k), 0);
        }
        BracketSweep x = Diagrams.kinks(1, true, 1);
        x.crossing(1, 3, 4, 5, 6);
        x.crossing(1, 6, 5, 4, 3);
        for (int k = 0; k < 3; k++) {
            check.due("6: two parts, from " + k, x.sweep(k), 4);
        }
    }

    /** 6: "(The crossings stay as they were given.)" */
    private void sweepLeavesTheCrossings() {
        for (Map.Entry<String, Supplier<BracketSweep>> object : objects().entrySet()) {
            List<String> before = Picture.of(object.getValue().get());
            for (int k = 0; k < 10; k++) {
                BracketSweep x = object.getValue().get();
                x.sweep(k);
                same("6: " + object.getKey() + ", swept from " + k, Picture.of(x), before);
            }
        }
    }

    /** 7, terms: "A code without crossings and circles has the bracket 1." */
    private void bracketOfNothing() {
        BracketSweep x = new BracketSweep();
        dueOne("7: new", x);
        x.crossing(1, 1, 1, 2, 2);
        x.bracket(0);
        x.clear();
        dueOne("7: cleared", x);
        x.circles(2);
        check.due("7: two circles", x.bracket(0), 0);
        x.circles(0);
        dueOne("7: no circles any more", x);
        x.circles(1);
        dueOne("7: one circle", x);
    }

    private void dueOne(String name, BracketSweep x) {
        for (int e = -4; e <= 4; e++) {
            check.due(name + ", bracket(" + e + ")", x.bracket(e), e == 0 ? 1 : 0);
            check.due(name + ", jones(" + e + ")", x.jones(e), e == 0 ? 1 : 0);
        }
    }

    /** 7, terms: "times d to the power of (its circles less one)". */
    private void bracketOfSoManyCircles() {
        for (int n = 1; n <= 9; n++) {
            BracketSweep x = Diagrams.circlesAlone(n);
            for (int e = -20; e <= 20; e++) {
                long want = coefficientOfPowerOfD(n - 1, e);
                check.due("7: " + n + " circles, bracket(" + e + ")", x.bracket(e), want);
                check.due("8: " + n + " circles, jones(" + e + ")", x.jones(e), want);
            }
        }
    }

    /** Ten kinks and nine circles are A^30 d^18, or A^-30 d^18: no exponent is further out. */
    private void bracketAtItsOutermostExponents() {
        for (int side = -1; side <= 1; side += 2) {
            BracketSweep x = Diagrams.kinks(10, side == 1, 1);
            x.circles(9);
            for (int e = -72; e <= 72; e++) {
                long want = coefficientOfPowerOfD(18, e - 30 * side);
                check.due("7: side " + side + ", bracket(" + e + ")", x.bracket(e), want);
            }
            check.due("7: outermost", x.bracket(66 * side), 1);
            check.due("7: past it", x.bracket(67 * side), 0);
            check.due("7: a step past it", x.bracket(70 * side), 0);
        }
    }

    private void bracketFarOutside() {
        for (Map.Entry<String, Supplier<BracketSweep>> object : objects().entrySet()) {
            BracketSweep x = object.getValue().get();
            for (int e : FAR_EXPONENTS) {
                check.due("7: " + object.getKey() + ", bracket(" + e + ")", x.bracket(e), 0);
            }
        }
        BracketSweep far = Diagrams.kinks(10, true, 1);
        far.circles(9);
        for (int power = 7; power < 32; power++) {
            int e = 30 + (1 << power);
            check.due("7: bracket(" + e + ")", far.bracket(e), 0);
        }
    }

    /** 7 and 8: "0 when there is no code." */
    private void bracketWithoutCode() {
        for (int e = -100; e <= 100; e++) {
            check.due("7: no code, bracket(" + e + ")", noCode().bracket(e), 0);
            check.due("8: no code, jones(" + e + ")", noCode().jones(e), 0);
            check.due("7: full, no code, bracket(" + e + ")", fullNoCode().bracket(e), 0);
            check.due("8: full, no code, jones(" + e + ")", fullNoCode().jones(e), 0);
        }
    }

    private void bracketOfACodeThatComesAndGoes() {
        BracketSweep x = Diagrams.kinks(1, true, 1);
        check.due("7: a code", x.bracket(3), -1);
        check.due("8: a code", x.jones(0), 1);
        x.crossing(1, 3, 4, 3, 5);
        check.due("7: none any more", x.bracket(3), 0);
        check.due("8: none any more", x.jones(0), 0);
        check.due("9: none any more", x.span(false, true), 0);
        x.circles(1);
        check.due("7: none with a circle", x.bracket(3), 0);
        x.crossing(1, 5, 4, 6, 6);
        check.due("5: a code again", x.fault(), 0);
        check.due("7: a code again", x.bracket(x.span(false, true)) != 0, true);
    }

    /** 8: "the bracket times (- A^3) to the power of less the sum of signs." */
    private void jonesOfEverySumOfSigns() {
        for (int n = 1; n <= 10; n++) {
            for (int below = 0; below <= n; below++) {
                BracketSweep x = new BracketSweep();
                for (int k = 0; k < n; k++) {
                    x.crossing(k < below ? -1 : 1, 2 * k + 1, 2 * k + 1, 2 * k + 2, 2 * k + 2);
                }
                int signs = n - 2 * below;
                // The bracket is (- A^3)^n d^(n - 1).
                for (int e = -100; e <= 100; e++) {
                    long want = coefficientOfPowerOfD(n - 1, e - 3 * (n - signs));
                    want = (n - signs) % 2 == 0 ? want : -want;
                    check.due("8: " + n + ", signs " + signs + ", jones(" + e + ")",
                        x.jones(e), want);
                }
            }
        }
    }

    private void jonesAtItsOutermostExponents() {
        for (int side = -1; side <= 1; side += 2) {
            BracketSweep x = Diagrams.kinks(10, side == 1, -side);
            x.circles(9);
            for (int e = -100; e <= 100; e++) {
                long want = coefficientOfPowerOfD(18, e - 60 * side);
                check.due("8: side " + side + ", jones(" + e + ")", x.jones(e), want);
            }
            check.due("8: outermost", x.jones(96 * side), 1);
            check.due("8: past it", x.jones(97 * side), 0);
            check.due("8: a step past it", x.jones(100 * side), 0);
        }
    }

    /** Less three times the sum of signs, some of these exponents are past int's edges. */
    private void jonesFarOutside() {
        for (int sign = -1; sign <= 1; sign += 2) {
            BracketSweep x = Diagrams.kinks(10, true, sign);
            x.circles(9);
            for (int e : FAR_EXPONENTS) {
                check.due("8: signs " + 10 * sign + ", jones(" + e + ")", x.jones(e), 0);
            }
            for (int shift = -100; shift <= 100; shift++) {
                int e = LEAST + shift;
                check.due("8: signs " + 10 * sign + ", jones(" + e + ")", x.jones(e), 0);
            }
        }
    }

    /** 9: "the least exponent with a coefficient that is not 0 (high false), or the greatest." */
    private void spanOfNothingAndOfOneTerm() {
        dueSpans("9: nothing", new BracketSweep(), 0, 0, 0, 0);
        for (int n = 1; n <= 9; n++) {
            int out = 2 * (n - 1);
            dueSpans("9: " + n + " circles", Diagrams.circlesAlone(n), -out, out, -out, out);
        }
        dueSpans("9: a kink", Diagrams.kinks(1, true, 1), 3, 3, 0, 0);
        dueSpans("9: a kink, sign -1", Diagrams.kinks(1, true, -1), 3, 3, 6, 6);
        dueSpans("9: the other kink", Diagrams.kinks(1, false, 1), -3, -3, -6, -6);
        dueSpans("9: the other kink, sign -1", Diagrams.kinks(1, false, -1), -3, -3, 0, 0);
        dueSpans("9: trefoil", Diagrams.trefoil(), -7, 5, -16, -4);
    }

    private void spanAtItsGreatest() {
        for (int sign = -1; sign <= 1; sign += 2) {
            BracketSweep a = Diagrams.kinks(10, true, sign);
            a.circles(9);
            dueSpans("9: by A", a, -6, 66, -6 - 30 * sign, 66 - 30 * sign);
            BracketSweep b = Diagrams.kinks(10, false, sign);
            b.circles(9);
            dueSpans("9: by B", b, -66, 6, -66 - 30 * sign, 6 - 30 * sign);
        }
    }

    /** 9: "0 when there is no code"; though the sum of signs is not 0. */
    private void spanWithoutCode() {
        dueSpans("9: no code", noCode(), 0, 0, 0, 0);
        dueSpans("9: full, no code", fullNoCode(), 0, 0, 0, 0);
        BracketSweep one = new BracketSweep();
        one.crossing(-1, 1, 2, 3, 4);
        dueSpans("9: one crossing, no code", one, 0, 0, 0, 0);
    }

    private void dueSpans(String name, BracketSweep x, int least, int greatest,
            int jonesLeast, int jonesGreatest) {
        check.due(name + ", span(false, false)", x.span(false, false), least);
        check.due(name + ", span(false, true)", x.span(false, true), greatest);
        check.due(name + ", span(true, false)", x.span(true, false), jonesLeast);
        check.due(name + ", span(true, true)", x.span(true, true), jonesGreatest);
    }

    /** 10: "smooths crossing k by B just when bit k (value 2^k) of mask is 1, else by A". */
    private void stateOfTheFirstAndTheLastMask() {
        for (int n = 0; n <= 10; n++) {
            BracketSweep x = Diagrams.kinks(n, true, 1);
            int last = (1 << n) - 1;
            check.due("10: of " + n + ", state(0)", x.state(0), 2 * n);
            check.due("10: of " + n + ", state(" + last + ")", x.state(last), n);
            for (int k = 0; k < n; k++) {
                BracketSweep one = Diagrams.kinks(n, true, 1);
                one.change(k);
                // The changed kink, smoothed by B, is two circles, by A one.
                check.due("10: of " + n + ", changed " + k, one.state(1 << k), 2 * n);
                check.due("10: of " + n + ", changed " + k + ", all others by B",
                    one.state(last - (1 << k)), n);
            }
        }
    }

    /** 10: "-1 when mask is not such". */
    private void stateOfNoMask() {
        for (int n = 0; n <= 10; n++) {
            int crossings = n;
            int next = 1 << n;
            Supplier<BracketSweep> object = () -> Diagrams.kinks(crossings, true, 1);
            for (int mask : new int[] {LEAST, LEAST + 1, -1024, -2, -1, next, next + 1, GREATEST}) {
                refused("10: of " + n + ", state(" + mask + ")", object, x -> x.state(mask), -1);
            }
            BracketSweep x = object.get();
            for (int bit = n; bit < 32; bit++) {
                check.due("10: of " + n + ", bit " + bit, x.state(1 << bit), -1);
                check.due("10: of " + n + ", bit " + bit + " and all",
                    x.state(1 << bit | next - 1), -1);
            }
        }
    }

    /** 10: "or there is no code". */
    private void stateWithoutCode() {
        for (int mask : new int[] {LEAST, -1, 0, 1, 15, 16, GREATEST}) {
            refused("10: no code, state(" + mask + ")", Boundaries::noCode,
                x -> x.state(mask), -1);
        }
        for (int mask : new int[] {LEAST, -1, 0, 1, 1023, 1024, GREATEST}) {
            refused("10: full, no code, state(" + mask + ")", Boundaries::fullNoCode,
                x -> x.state(mask), -1);
        }
    }

    private void stateAtItsLeastAndGreatest() {
        check.due("10: nothing", new BracketSweep().state(0), 0);
        for (int n = 0; n <= 9; n++) {
            check.due("10: circles alone", Diagrams.circlesAlone(n).state(0), n);
        }
        BracketSweep x = Diagrams.kinks(10, true, 1);
        x.circles(9);
        check.due("10: most circles", x.state(0), 29);
        check.due("10: all by B", x.state(1023), 19);
        check.due("10: one way", Diagrams.torus(9).state(1), 1);
        BracketSweep flat = new BracketSweep();
        flat.crossing(1, 1, 2, 1, 2);
        check.due("10: a label at places 0 and 2, by A", flat.state(0), 1);
        check.due("10: a label at places 0 and 2, by B", flat.state(1), 1);
    }

    /** Terms: "four labels 1 .. 99": what is asked is answered for the outermost ones, too. */
    private void labelsAtTheirEdges() {
        int[][] pairs = {{1, 99}, {99, 1}, {98, 99}, {1, 2}};
        for (int[] pair : pairs) {
            String name = "labels " + pair[0] + " and " + pair[1];
            BracketSweep x = new BracketSweep();
            x.crossing(1, pair[0], pair[0], pair[1], pair[1]);
            check.due("5: " + name + ", fault()", x.fault(), 0);
            check.due("6: " + name + ", sweep(0)", x.sweep(0), 0);
            check.due("7: " + name + ", bracket(3)", x.bracket(3), -1);
            check.due("10: " + name + ", state(0)", x.state(0), 2);
            check.due("10: " + name + ", state(1)", x.state(1), 1);
            x.crossing(1, 50, 60, 70, 80);
            check.due("5: " + name + ", no code", x.fault(), 50);
            x.crossing(1, 80, 70, 60, 50);
            check.due("6: " + name + ", sweep(0)", x.sweep(0), 4);
            check.due("12: " + name + ", resolve(0, false)", x.resolve(0, false), true);
            check.due("12: " + name + ", circles", x.look(-1, 1), 1);
        }
    }

    /** "An object is used for at most 512 calls": the last one is answered as the first. */
    private void callsUpToTheLast() {
        BracketSweep x = Diagrams.kinks(10, true, 1);
        x.circles(9);
        int calls = 11;
        int byA = 10;
        for (int i = 0; calls <= 508; i++) {
            check.due("call " + ++calls + ", change", x.change(i % 10), true);
            byA += i / 10 % 2 == 0 ? -1 : 1;
            check.due("call " + ++calls + ", sweep", x.sweep(i % 10), 0);
            int e = 3 * (2 * byA - 10) + 36;
            check.due("call " + ++calls + ", bracket(" + e + ")", x.bracket(e), 1);
        }
        check.due("call " + ++calls + ", fault()", x.fault(), 0);
        check.due("call " + ++calls + ", clear()", x.clear(), 10);
        check.due("call " + ++calls + ", bracket(0)", x.bracket(0), 1);
        check.due("calls", calls, 512);
    }

    /** Of d^n = (- A^2 - A^-2)^n. */
    private static long coefficientOfPowerOfD(int n, int exponent) {
        long binomial = 1;
        for (int j = 0; j <= n; j++) {
            if (exponent == 2 * n - 4 * j) {
                return n % 2 == 0 ? binomial : -binomial;
            }
            binomial = binomial * (n - j) / (j + 1);
        }
        return 0;
    }
}
