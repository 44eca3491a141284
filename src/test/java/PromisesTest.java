/** Each promise of the document by itself, with answers that are worked out by hand. */
public final class PromisesTest {
    private static final int LEAST = Integer.MIN_VALUE;
    private static final int GREATEST = Integer.MAX_VALUE;

    private final Check check = new Check();

    public static void main(String[] args) {
        PromisesTest test = new PromisesTest();
        test.promise1NewObject();
        test.promise2Crossing();
        test.promise3Circles();
        test.promise4Clear();
        test.promise5Fault();
        test.promise6Sweep();
        test.promise6SweepLeavesAllAsItWas();
        test.promise7Bracket();
        test.promise7BracketOfTorusLinks();
        test.promise7BracketAtTheLimits();
        test.promise7BracketAfterEachChange();
        test.promise8Jones();
        test.promise8JonesIsNotChangedByMoves();
        test.promise9Span();
        test.promise10State();
        test.promise11Look();
        test.promise12Resolve();
        test.promise12ResolveRenames();
        test.promise12ResolveAtNineCircles();
        test.promise12ResolvedBracketsMakeTheBracket();
        test.promise13Change();
        test.promise14Move();
        test.check.end();
    }

    private void promise1NewObject() {
        BracketSweep x = new BracketSweep();
        check.due("1: look(-1, 0)", x.look(-1, 0), 0);
        check.due("1: look(-1, 1)", x.look(-1, 1), 0);
        check.due("1: look(-1, 2)", x.look(-1, 2), 0);
        check.due("1: fault()", x.fault(), 0);
        check.due("1: bracket(0)", x.bracket(0), 1);
        BracketSweep other = new BracketSweep();
        other.crossing(1, 1, 1, 2, 2);
        check.due("1: another object's crossing", x.look(-1, 0), 0);
    }

    private void promise2Crossing() {
        BracketSweep x = new BracketSweep();
        check.due("2: labels 1 and 99", x.crossing(1, 1, 99, 1, 99), 1);
        check.due("2: sign -1", x.crossing(-1, 99, 98, 97, 96), 2);
        for (int sign : new int[] {LEAST, -2, 0, 2, 3, GREATEST}) {
            check.due("2: sign " + sign, x.crossing(sign, 1, 2, 3, 4), -1);
        }
        for (int label : new int[] {LEAST, -1, 0, 100, GREATEST}) {
            check.due("2: l0 " + label, x.crossing(1, label, 2, 3, 4), -1);
            check.due("2: l1 " + label, x.crossing(1, 1, label, 3, 4), -1);
            check.due("2: l2 " + label, x.crossing(1, 1, 2, label, 4), -1);
            check.due("2: l3 " + label, x.crossing(1, 1, 2, 3, label), -1);
        }
        check.due("2: refused ones do nothing", x.look(-1, 0), 2);
        dueCrossing("2: first", x, 0, 1, 1, 99, 1, 99);
        dueCrossing("2: second", x, 1, -1, 99, 98, 97, 96);
        for (int n = 3; n <= 10; n++) {
            check.due("2: crossing " + n, x.crossing(1, 1, 2, 3, 4), n);
        }
        check.due("2: an eleventh", x.crossing(1, 5, 6, 7, 8), -1);
        check.due("2: an eleventh does nothing", x.look(-1, 0), 10);
        dueCrossing("2: tenth", x, 9, 1, 1, 2, 3, 4);
    }

    private void promise3Circles() {
        BracketSweep x = new BracketSweep();
        check.due("3: circles(9)", x.circles(9), 0);
        check.due("3: circles(4)", x.circles(4), 9);
        for (int n : new int[] {LEAST, -1, 10, GREATEST}) {
            check.due("3: circles(" + n + ")", x.circles(n), -1);
            check.due("3: refused, so as before", x.look(-1, 1), 4);
        }
        check.due("3: circles(0)", x.circles(0), 4);
        check.due("3: look(-1, 1)", x.look(-1, 1), 0);
    }

    private void promise4Clear() {
        BracketSweep x = Diagrams.trefoil();
        x.circles(5);
        check.due("4: clear()", x.clear(), 3);
        check.due("4: no crossings", x.look(-1, 0), 0);
        check.due("4: no circles", x.look(-1, 1), 0);
        check.due("4: no signs", x.look(-1, 2), 0);
        check.due("4: no crossing 0", x.look(0, 0), -1000);
        check.due("4: clear() again", x.clear(), 0);
        x.crossing(1, 1, 2, 3, 4);
        check.due("4: clear() without code", x.clear(), 1);
        check.due("4: a code again", x.fault(), 0);
        check.due("4: bracket(0)", x.bracket(0), 1);
        check.due("4: crossings anew", x.crossing(1, 1, 1, 2, 2), 1);
    }

    private void promise5Fault() {
        BracketSweep x = new BracketSweep();
        check.due("5: nothing", x.fault(), 0);
        x.crossing(1, 99, 98, 97, 98);
        check.due("5: 97 and 99 at one place", x.fault(), 97);
        x.crossing(1, 97, 99, 50, 50);
        check.due("5: a code", x.fault(), 0);
        x.crossing(-1, 50, 40, 40, 99);
        check.due("5: 50 and 99 at three places", x.fault(), 50);
        x.crossing(-1, 7, 7, 7, 7);
        check.due("5: 7 at four places", x.fault(), 7);
        x.crossing(-1, 1, 2, 3, 4);
        check.due("5: 1 at one place", x.fault(), 1);
        x.clear();
        x.crossing(1, 99, 1, 1, 2);
        x.crossing(1, 2, 3, 3, 98);
        check.due("5: 98 before 99", x.fault(), 98);
        x.clear();
        x.crossing(1, 99, 99, 99, 99);
        check.due("5: 99 at four places", x.fault(), 99);
        x.clear();
        x.circles(9);
        check.due("5: circles alone", x.fault(), 0);
    }

    private void promise6Sweep() {
        BracketSweep x = new BracketSweep();
        check.due("6: nothing there", x.sweep(0), -1);
        x.crossing(1, 1, 1, 2, 2);
        check.due("6: a kink's labels stand at two places at once", x.sweep(0), 0);
        for (int k : new int[] {LEAST, -1, 1, 10, GREATEST}) {
            check.due("6: sweep(" + k + ")", x.sweep(k), -1);
        }
        x.crossing(1, 3, 4, 5, 6);
        check.due("6: no code", x.sweep(0), -1);
        check.due("6: trefoil", Diagrams.trefoil().sweep(2), 4);
        BracketSweep tie = Diagrams.tieOfTwo();
        check.due("6: of two the first", tie.sweep(2), 4);
        tie.move(0, 1);
        check.due("6: of two the first, the other being first", tie.sweep(2), 2);
        check.due("6: crossing k is first", tie.sweep(1), 4);
        BracketSweep most = new BracketSweep();
        most.crossing(1, 1, 2, 3, 4);
        most.crossing(1, 1, 5, 6, 7);
        most.crossing(1, 2, 3, 4, 8);
        most.crossing(1, 5, 6, 7, 8);
        // 0 opens 4; 2 has three places on it, 1 only one; then 1 and 8 are open, then four of 1's.
        check.due("6: the one with most places", most.sweep(0), 4);
        BracketSweep apart = Diagrams.kinks(10, true, 1);
        check.due("6: parts that hang together by nothing", apart.sweep(9), 0);
    }

    private void promise6SweepLeavesAllAsItWas() {
        BracketSweep x = Diagrams.tieOfTwo();
        x.circles(2);
        long[] before = brackets(x);
        for (int k = 3; k >= 0; k--) {
            x.sweep(k);
            dueBrackets("6: after sweep(" + k + ")", x, before);
        }
        dueCrossing("6: 0 as given", x, 0, 1, 1, 3, 4, 5);
        dueCrossing("6: 3 as given", x, 3, 1, 4, 5, 8, 8);
        check.due("6: circles as they were", x.look(-1, 1), 2);
        BracketSweep unswept = Diagrams.tieOfTwo();
        unswept.circles(2);
        unswept.resolve(0, true);
        x.sweep(3);
        x.resolve(0, true);
        dueBrackets("6: an order is not for fewer crossings", x, brackets(unswept));
    }

    private void promise7Bracket() {
        duePolynomial("7: nothing", Diagrams.circlesAlone(0), 0, 1);
        duePolynomial("7: one circle", Diagrams.circlesAlone(1), 0, 1);
        duePolynomial("7: two circles", Diagrams.circlesAlone(2), -2, -1, 2, -1);
        duePolynomial("7: three circles", Diagrams.circlesAlone(3), -4, 1, 0, 2, 4, 1);
        duePolynomial("7: a kink", Diagrams.kinks(1, true, 1), 3, -1);
        duePolynomial("7: the other kink", Diagrams.kinks(1, false, 1), -3, -1);
        duePolynomial("7: trefoil", Diagrams.trefoil(), -7, 1, -3, -1, 5, -1);
        duePolynomial("7: figure eight", Diagrams.figureEight(), -8, 1, -4, -1, 0, 1, 4, -1, 8, 1);
        BracketSweep flat = new BracketSweep();
        flat.crossing(1, 1, 2, 1, 2);
        duePolynomial("7: a code of no plane diagram", flat, -1, 1, 1, 1);
        flat.crossing(1, 3, 4, 5, 6);
        duePolynomial("7: no code", flat);
        for (int e : new int[] {LEAST, LEAST + 66, -67, 67, GREATEST - 66, GREATEST}) {
            check.due("7: bracket(" + e + ")", Diagrams.trefoil().bracket(e), 0);
        }
    }

    private void promise7BracketOfTorusLinks() {
        for (int n = 1; n <= 10; n++) {
            BracketSweep x = Diagrams.torus(n);
            for (int e = -70; e <= 70; e++) {
                long want = e == n + 2 ? -1 : 0;
                for (int j = 1; j < n; j++) {
                    want += e == n - 2 - 4 * j ? (j % 2 == 0 ? 1 : -1) : 0;
                }
                check.due("7: torus " + n + ", bracket(" + e + ")", x.bracket(e), want);
            }
        }
    }

    /** Ten kinks that are ten parts, and nine circles: d^18 A^30, or A^-30. */
    private void promise7BracketAtTheLimits() {
        for (int side = -1; side <= 1; side += 2) {
            BracketSweep x = Diagrams.kinks(10, side == 1, 1);
            x.circles(9);
            long binomial = 1;
            for (int j = 0; j <= 18; j++) {
                int e = 30 * side + 36 - 4 * j;
                check.due("7: limits, bracket(" + e + ")", x.bracket(e), binomial);
                check.due("7: limits, bracket(" + (e + 1) + ")", x.bracket(e + 1), 0);
                check.due("7: limits, bracket(" + (e + 2) + ")", x.bracket(e + 2), 0);
                binomial = binomial * (18 - j) / (j + 1);
            }
            check.due("7: limits, least", x.span(false, false), 30 * side - 36);
            check.due("7: limits, greatest", x.span(false, true), 30 * side + 36);
        }
    }

    private void promise7BracketAfterEachChange() {
        BracketSweep x = Diagrams.trefoil();
        check.due("7: trefoil", x.bracket(5), -1);
        x.circles(1);
        check.due("7: after circles", x.bracket(7), 1);
        x.crossing(1, 7, 7, 8, 8);
        check.due("7: after crossing", x.bracket(12), 1);
        x.change(3);
        check.due("7: after change", x.bracket(6), 1);
        x.resolve(3, true);
        check.due("7: after resolve", x.bracket(9), -1);
        x.circles(10);
        x.crossing(0, 7, 7, 8, 8);
        x.resolve(3, true);
        check.due("7: after what is refused", x.bracket(9), -1);
        x.crossing(1, 7, 7, 8, 9);
        check.due("7: no code any more", x.bracket(9), 0);
        x.clear();
        check.due("7: after clear", x.bracket(0), 1);
    }

    private void promise8Jones() {
        dueJones("8: nothing", new BracketSweep(), 0, 1);
        dueJones("8: trefoil", Diagrams.trefoil(), -16, -1, -12, 1, -4, 1);
        dueJones("8: figure eight", Diagrams.figureEight(), -8, 1, -4, -1, 0, 1, 4, -1, 8, 1);
        dueJones("8: Hopf's link", Diagrams.torus(2), -10, -1, -2, -1);
        BracketSweep left = Diagrams.trefoil();
        left.change(0);
        left.change(1);
        left.change(2);
        dueJones("8: the other trefoil", left, 4, 1, 12, 1, 16, -1);
        BracketSweep x = new BracketSweep();
        x.crossing(1, 1, 2, 3, 4);
        dueJones("8: no code", x);
        for (int e : new int[] {LEAST, LEAST + 29, -97, 97, GREATEST - 29, GREATEST}) {
            check.due("8: jones(" + e + ")", Diagrams.trefoil().jones(e), 0);
            check.due("8: other jones(" + e + ")", left.jones(e), 0);
        }
        BracketSweep far = Diagrams.kinks(10, true, -1);
        far.circles(9);
        check.due("8: limits, jones(96)", far.jones(96), 1);
        check.due("8: limits, jones(92)", far.jones(92), 18);
        far = Diagrams.kinks(10, false, 1);
        far.circles(9);
        check.due("8: limits, jones(-96)", far.jones(-96), 1);
        BracketSweep odd = Diagrams.kinks(1, true, -1);
        check.due("8: an odd sum of signs below 0", odd.jones(6), 1);
    }

    /** A kink in a strand of the trefoil; two circles that cross twice and come apart. */
    private void promise8JonesIsNotChangedByMoves() {
        BracketSweep kinked = Diagrams.kinkedTrefoil(-1);
        check.due("8: kinked, a code", kinked.fault(), 0);
        dueJones("8: kinked", kinked, -16, -1, -12, 1, -4, 1);
        dueJones("8: kinked, with the wrong sign", Diagrams.kinkedTrefoil(1),
            -22, -1, -18, 1, -10, 1);
        BracketSweep apart = Diagrams.torus(2);
        apart.change(1);
        dueJones("8: two circles, one upon the other", apart, -2, -1, 2, -1);
    }

    private void promise9Span() {
        BracketSweep x = Diagrams.trefoil();
        check.due("9: bracket, least", x.span(false, false), -7);
        check.due("9: bracket, greatest", x.span(false, true), 5);
        check.due("9: jones, least", x.span(true, false), -16);
        check.due("9: jones, greatest", x.span(true, true), -4);
        x.crossing(1, 7, 7, 7, 8);
        for (int i = 0; i < 4; i++) {
            check.due("9: no code", x.span(i > 1, i % 2 == 1), 0);
        }
        BracketSweep nothing = new BracketSweep();
        for (int i = 0; i < 4; i++) {
            check.due("9: nothing", nothing.span(i > 1, i % 2 == 1), 0);
        }
        nothing.circles(9);
        check.due("9: nine circles, least", nothing.span(false, false), -16);
        check.due("9: nine circles, greatest", nothing.span(true, true), 16);
        BracketSweep far = Diagrams.kinks(10, true, -1);
        far.circles(9);
        check.due("9: limits, greatest", far.span(true, true), 96);
        far = Diagrams.kinks(10, false, 1);
        far.circles(9);
        check.due("9: limits, least", far.span(true, false), -96);
    }

    private void promise10State() {
        BracketSweep x = new BracketSweep();
        check.due("10: nothing", x.state(0), 0);
        check.due("10: nothing, mask 1", x.state(1), -1);
        x.circles(9);
        check.due("10: circles alone", x.state(0), 9);
        BracketSweep t = Diagrams.trefoil();
        int[] due = {2, 1, 1, 2, 1, 2, 2, 3};
        for (int mask = 0; mask < 8; mask++) {
            check.due("10: trefoil, state(" + mask + ")", t.state(mask), due[mask]);
        }
        t.circles(4);
        check.due("10: circles counted", t.state(7), 7);
        for (int mask : new int[] {LEAST, -1, 8, 1 << 30, GREATEST}) {
            check.due("10: state(" + mask + ")", t.state(mask), -1);
        }
        t.crossing(1, 7, 8, 9, 9);
        check.due("10: no code", t.state(0), -1);
        BracketSweep ten = Diagrams.kinks(10, true, 1);
        check.due("10: ten by A", ten.state(0), 20);
        check.due("10: ten by B", ten.state(1023), 10);
        check.due("10: bit 9 is crossing 9", ten.state(512), 19);
        check.due("10: 1024 is none", ten.state(1024), -1);
        BracketSweep two = new BracketSweep();
        two.crossing(1, 1, 1, 2, 2);
        two.crossing(1, 3, 4, 3, 4);
        check.due("10: bit 0 is crossing 0", two.state(1), 2);
        check.due("10: bit 1 is crossing 1", two.state(2), 3);
    }

    private void promise11Look() {
        BracketSweep x = new BracketSweep();
        check.due("11: nothing", x.look(0, 0), -1000);
        x.crossing(-1, 11, 12, 13, 14);
        x.crossing(-1, 21, 22, 23, 24);
        x.crossing(1, 31, 32, 33, 34);
        x.circles(6);
        dueCrossing("11: crossing 0", x, 0, -1, 11, 12, 13, 14);
        dueCrossing("11: crossing 2", x, 2, 1, 31, 32, 33, 34);
        check.due("11: crossings", x.look(-1, 0), 3);
        check.due("11: circles", x.look(-1, 1), 6);
        check.due("11: signs", x.look(-1, 2), -1);
        for (int what : new int[] {LEAST, -1, 5, GREATEST}) {
            check.due("11: look(0, " + what + ")", x.look(0, what), -1000);
        }
        for (int what : new int[] {LEAST, -1, 3, 4, GREATEST}) {
            check.due("11: look(-1, " + what + ")", x.look(-1, what), -1000);
        }
        for (int k : new int[] {LEAST, -2, 3, 10, 1 << 30, GREATEST}) {
            check.due("11: look(" + k + ", 0)", x.look(k, 0), -1000);
        }
    }

    private void promise12Resolve() {
        BracketSweep x = Diagrams.trefoil();
        for (int k : new int[] {LEAST, -1, 3, 10, GREATEST}) {
            check.due("12: resolve(" + k + ", ..)", x.resolve(k, true), false);
        }
        check.due("12: refused, so as before", x.look(-1, 0), 3);
        // 3 with 1 become 1, 4 with 6 become 4.
        check.due("12: resolve(1, true)", x.resolve(1, true), true);
        check.due("12: one less", x.look(-1, 0), 2);
        dueCrossing("12: crossing 0", x, 0, 1, 1, 5, 2, 4);
        dueCrossing("12: what was behind counts one less", x, 1, 1, 5, 1, 4, 2);
        check.due("12: signs", x.look(-1, 2), 2);
        check.due("12: no circle yet", x.look(-1, 1), 0);
        x.crossing(1, 7, 8, 9, 9);
        check.due("12: no code", x.resolve(0, true), false);
        check.due("12: no code, so as before", x.look(-1, 0), 3);
        x = Diagrams.kinks(1, true, 1);
        check.due("12: by A", x.resolve(0, true), true);
        check.due("12: two circles", x.look(-1, 1), 2);
        x = Diagrams.kinks(1, true, 1);
        check.due("12: by B", x.resolve(0, false), true);
        check.due("12: one circle", x.look(-1, 1), 1);
        check.due("12: nothing is left", x.resolve(0, false), false);
        x = Diagrams.kinks(4, true, 1);
        x.change(2);
        check.due("12: resolve(1, false) of four", x.resolve(1, false), true);
        dueCrossing("12: the one before stays", x, 0, 1, 1, 1, 2, 2);
        dueCrossing("12: those behind keep their order", x, 1, -1, 5, 6, 6, 5);
        dueCrossing("12: the last one, too", x, 2, 1, 7, 7, 8, 8);
        check.due("12: no fourth", x.look(3, 0), -1000);
    }

    private void promise12ResolveRenames() {
        BracketSweep b = new BracketSweep();
        b.crossing(1, 10, 20, 30, 40);
        b.crossing(-1, 40, 30, 20, 10);
        check.due("12: by B", b.resolve(0, false), true);
        // 20 with 30 become 20, 40 with 10 become 10.
        dueCrossing("12: the lesser ones", b, 0, -1, 10, 20, 20, 10);
        check.due("12: no circle", b.look(-1, 1), 0);
        BracketSweep a = new BracketSweep();
        a.crossing(1, 9, 3, 9, 5);
        a.crossing(1, 5, 3, 7, 7);
        check.due("12: by A", a.resolve(0, true), true);
        // 9 with 3 become 3; then place 2 is named 3, too, and with 5 becomes 3.
        dueCrossing("12: as they are named then", a, 0, 1, 3, 3, 7, 7);
        BracketSweep last = new BracketSweep();
        last.crossing(1, 3, 9, 5, 9);
        last.crossing(1, 5, 3, 7, 7);
        check.due("12: by A, the last place", last.resolve(0, true), true);
        dueCrossing("12: the last place as it is named then", last, 0, 1, 3, 3, 7, 7);
        BracketSweep both = new BracketSweep();
        both.crossing(1, 2, 1, 2, 1);
        check.due("12: named alike", both.resolve(0, true), true);
        check.due("12: one circle, not two or none", both.look(-1, 1), 1);
        BracketSweep way = new BracketSweep();
        way.crossing(1, 1, 2, 2, 1);
        check.due("12: by A, one way", way.resolve(0, true), true);
        check.due("12: one circle", way.look(-1, 1), 1);
    }

    private void promise12ResolveAtNineCircles() {
        BracketSweep x = Diagrams.kinks(2, true, 1);
        x.circles(8);
        check.due("12: ten circles", x.resolve(1, true), false);
        check.due("12: as before", x.look(-1, 1), 8);
        dueCrossing("12: as before", x, 1, 1, 3, 3, 4, 4);
        check.due("12: nine circles", x.resolve(1, false), true);
        check.due("12: nine", x.look(-1, 1), 9);
        check.due("12: ten, by B", x.resolve(0, false), false);
        check.due("12: eleven, by A", x.resolve(0, true), false);
        dueCrossing("12: crossing 0 as before", x, 0, 1, 1, 1, 2, 2);
        x = Diagrams.trefoil();
        x.circles(9);
        check.due("12: no circle more", x.resolve(2, true), true);
        x = Diagrams.kinks(1, true, 1);
        x.circles(7);
        check.due("12: just nine", x.resolve(0, true), true);
        check.due("12: nine there", x.look(-1, 1), 9);
    }

    /** The bracket is A times the one resolved by A, and A^-1 times the one resolved by B. */
    private void promise12ResolvedBracketsMakeTheBracket() {
        for (int k = 0; k < 4; k++) {
            BracketSweep whole = Diagrams.figureEight();
            BracketSweep a = Diagrams.figureEight();
            BracketSweep b = Diagrams.figureEight();
            a.resolve(k, true);
            b.resolve(k, false);
            for (int e = -20; e <= 20; e++) {
                long parts = a.bracket(e - 1) + b.bracket(e + 1);
                check.due("12: figure eight, " + k + ", at " + e, whole.bracket(e), parts);
            }
        }
    }

    private void promise13Change() {
        BracketSweep x = new BracketSweep();
        check.due("13: nothing", x.change(0), false);
        x.crossing(1, 11, 12, 13, 14);
        x.crossing(-1, 21, 22, 23, 24);
        check.due("13: change(0), no code being needed", x.change(0), true);
        dueCrossing("13: changed", x, 0, -1, 12, 13, 14, 11);
        dueCrossing("13: the other one is as it was", x, 1, -1, 21, 22, 23, 24);
        check.due("13: signs", x.look(-1, 2), -2);
        check.due("13: change(1)", x.change(1), true);
        dueCrossing("13: sign becomes 1", x, 1, 1, 22, 23, 24, 21);
        for (int k : new int[] {LEAST, -1, 2, 10, GREATEST}) {
            check.due("13: change(" + k + ")", x.change(k), false);
        }
        dueCrossing("13: refused, so as before", x, 0, -1, 12, 13, 14, 11);
        BracketSweep knot = Diagrams.trefoil();
        knot.change(1);
        dueJones("13: the trefoil is undone", knot, 0, 1);
    }

    private void promise14Move() {
        BracketSweep x = new BracketSweep();
        check.due("14: nothing", x.move(0, 0), false);
        for (int k = 0; k < 5; k++) {
            x.crossing(k % 2 == 0 ? 1 : -1, 10 * k + 1, 10 * k + 2, 10 * k + 3, 10 * k + 4);
        }
        dueOrder("14: as given", x, 0, 1, 2, 3, 4);
        check.due("14: move(1, 3)", x.move(1, 3), true);
        dueOrder("14: move(1, 3)", x, 0, 2, 3, 1, 4);
        check.due("14: move(4, 0)", x.move(4, 0), true);
        dueOrder("14: move(4, 0)", x, 4, 0, 2, 3, 1);
        check.due("14: move(0, 4)", x.move(0, 4), true);
        dueOrder("14: move(0, 4)", x, 0, 2, 3, 1, 4);
        check.due("14: move(2, 2)", x.move(2, 2), true);
        dueOrder("14: move(2, 2)", x, 0, 2, 3, 1, 4);
        for (int k : new int[] {LEAST, -1, 5, 10, GREATEST}) {
            check.due("14: move(" + k + ", 0)", x.move(k, 0), false);
            check.due("14: move(0, " + k + ")", x.move(0, k), false);
        }
        dueOrder("14: refused, so as before", x, 0, 2, 3, 1, 4);
        BracketSweep knot = Diagrams.trefoil();
        knot.circles(1);
        knot.crossing(1, 7, 7, 8, 8);
        long[] before = brackets(knot);
        knot.move(3, 0);
        dueBrackets("14: the bracket stays", knot, before);
        check.due("14: states follow the order", knot.state(1), 4);
    }

    /** Crossing number m was given the labels 10 m + 1 .. 10 m + 4, and 1 for a sign if m is even. */
    private void dueOrder(String call, BracketSweep x, int... order) {
        check.due(call + ": crossings", x.look(-1, 0), order.length);
        for (int k = 0; k < order.length; k++) {
            int m = order[k];
            dueCrossing(call + ": place " + k, x, k,
                m % 2 == 0 ? 1 : -1, 10 * m + 1, 10 * m + 2, 10 * m + 3, 10 * m + 4);
        }
    }

    private void dueCrossing(String call, BracketSweep x, int k, int sign, int... labels) {
        check.due(call + ": sign", x.look(k, 4), sign);
        for (int place = 0; place < 4; place++) {
            check.due(call + ": place " + place, x.look(k, place), labels[place]);
        }
    }

    /** The pairs are exponents and coefficients; all others are 0. */
    private void duePolynomial(String call, BracketSweep x, int... pairs) {
        for (int e = -70; e <= 70; e++) {
            check.due(call + ", bracket(" + e + ")", x.bracket(e), coefficient(e, pairs));
        }
    }

    private void dueJones(String call, BracketSweep x, int... pairs) {
        for (int e = -100; e <= 100; e++) {
            check.due(call + ", jones(" + e + ")", x.jones(e), coefficient(e, pairs));
        }
    }

    private static int coefficient(int exponent, int... pairs) {
        for (int i = 0; i < pairs.length; i += 2) {
            if (pairs[i] == exponent) {
                return pairs[i + 1];
            }
        }
        return 0;
    }

    private static long[] brackets(BracketSweep x) {
        long[] row = new long[61];
        for (int i = 0; i < row.length; i++) {
            row[i] = x.bracket(i - 30);
        }
        return row;
    }

    private void dueBrackets(String call, BracketSweep x, long[] row) {
        for (int i = 0; i < row.length; i++) {
            check.due(call + ", bracket(" + (i - 30) + ")", x.bracket(i - 30), row[i]);
        }
    }
}
