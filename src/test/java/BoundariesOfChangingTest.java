import java.util.ArrayList;
import java.util.List;
import java.util.Map;
import java.util.function.Supplier;

/** The boundary cases of promises 12 to 14: resolve, change and move. */
public final class BoundariesOfChangingTest extends Boundaries {
    private static final boolean[] BY_A_AND_B = {true, false};

    public static void main(String[] args) {
        BoundariesOfChangingTest test = new BoundariesOfChangingTest();
        test.resolveTheFirstAndTheLast();
        test.resolveNoCrossing();
        test.resolveWithoutCode();
        test.resolveAfterAsking();
        test.resolveClosingTwoCircles();
        test.resolveClosingOneCircle();
        test.resolveClosingOneCircleThatIsNamedAlike();
        test.resolveClosingNone();
        test.resolveTakesTheLesserLabel();
        test.resolveTakesTheOthersAsTheyAreNamedThen();
        test.resolveCountsThoseBehindOneLess();
        test.resolveToTheLastOne();
        test.changeTheFirstAndTheLast();
        test.changeNoCrossing();
        test.changeWithoutCode();
        test.changeAllTheWayRound();
        test.moveToEveryPlace();
        test.moveNoCrossingOrToNone();
        test.moveWithoutCode();
        test.moveToItsOwnPlace();
        test.check.end();
    }

    /** 12: "false, doing nothing, when there is no such one". */
    private void resolveTheFirstAndTheLast() {
        for (int n = 1; n <= 10; n++) {
            int next = n;
            Supplier<BracketSweep> object = () -> Diagrams.torus(next);
            for (boolean a : BY_A_AND_B) {
                for (int k : new int[] {0, n - 1}) {
                    BracketSweep x = object.get();
                    check.due("12: of " + n + ", resolve(" + k + ", " + a + ")",
                        x.resolve(k, a), true);
                    check.due("12: of " + n + " one less", x.look(-1, 0), n - 1);
                }
                refused("12: of " + n + ", resolve(" + n + ", " + a + ")", object,
                    x -> x.resolve(next, a));
            }
        }
    }

    private void resolveNoCrossing() {
        for (Map.Entry<String, Supplier<BracketSweep>> object : objects().entrySet()) {
            String name = "12: " + object.getKey();
            for (boolean a : BY_A_AND_B) {
                refused(name + ", resolve(-1, " + a + ")", object.getValue(),
                    x -> x.resolve(-1, a));
                refused(name + ", resolve(n, " + a + ")", object.getValue(),
                    x -> x.resolve(x.look(-1, 0), a));
                for (int k : NEVER_A_CROSSING) {
                    refused(name + ", resolve(" + k + ", " + a + ")", object.getValue(),
                        x -> x.resolve(k, a));
                }
            }
        }
    }

    /** 12: "or no code". */
    private void resolveWithoutCode() {
        for (boolean a : BY_A_AND_B) {
            for (int k = 0; k < 4; k++) {
                int from = k;
                refused("12: no code, resolve(" + k + ", " + a + ")", Boundaries::noCode,
                    x -> x.resolve(from, a));
            }
            for (int k = 0; k < 10; k++) {
                int from = k;
                refused("12: full, no code, resolve(" + k + ", " + a + ")",
                    Boundaries::fullNoCode, x -> x.resolve(from, a));
            }
        }
    }

    /** What was asked before is not answered any more. */
    private void resolveAfterAsking() {
        for (boolean a : BY_A_AND_B) {
            for (int k = 0; k < 10; k++) {
                int from = k;
                taken("12: full, resolve(" + k + ", " + a + ")", Boundaries::full,
                    x -> x.resolve(from, a));
            }
            for (int k = 0; k < 4; k++) {
                int from = k;
                taken("12: figure eight, resolve(" + k + ", " + a + ")", Diagrams::figureEight,
                    x -> x.resolve(from, a));
            }
            taken("12: a kink, resolve(0, " + a + ")", () -> Diagrams.kinks(1, true, 1),
                x -> x.resolve(0, a));
        }
    }

    /** 12: "or there would be more than 9 circles". */
    private void resolveClosingTwoCircles() {
        dueClosed("two, by A", true, 2, new int[] {4, 4, 5, 5});
        dueClosed("two, by B", false, 2, new int[] {4, 5, 5, 4});
    }

    /** The labels that are not closed are joined, if it is not refused: 3 and 9 become 3. */
    private void resolveClosingOneCircle() {
        int[] other = {9, 3, 7, 7};
        dueClosed("0 with 1, by A", true, 1, new int[] {5, 5, 3, 9}, other);
        dueClosed("2 with 3, by A", true, 1, new int[] {3, 9, 5, 5}, other);
        dueClosed("1 with 2, by B", false, 1, new int[] {9, 5, 5, 3}, other);
        dueClosed("3 with 0, by B", false, 1, new int[] {5, 3, 9, 5}, other);
    }

    private void resolveClosingOneCircleThatIsNamedAlike() {
        for (boolean a : BY_A_AND_B) {
            dueClosed("crosswise, by A " + a, a, 1, new int[] {1, 2, 1, 2});
            dueClosed("crosswise, other names, by A " + a, a, 1, new int[] {2, 1, 2, 1});
        }
        dueClosed("0 with 3, 1 with 2, by A", true, 1, new int[] {1, 2, 2, 1});
        dueClosed("0 with 1, 2 with 3, by B", false, 1, new int[] {1, 1, 2, 2});
    }

    private void resolveClosingNone() {
        int[] other = {4, 3, 2, 1};
        for (boolean a : BY_A_AND_B) {
            dueClosed("none, by A " + a, a, 0, new int[] {1, 2, 3, 4}, other);
        }
    }

    /** Crossing 0 is resolved, with every number of circles before. */
    private void dueClosed(String name, boolean a, int closed, int[]... code) {
        for (int circles = 0; circles <= 9; circles++) {
            int before = circles;
            Supplier<BracketSweep> object = () -> ofLabels(before, code);
            String call = "12: " + name + ", with " + circles + " circles";
            if (circles + closed > 9) {
                refused(call, object, x -> x.resolve(0, a));
                continue;
            }
            BracketSweep x = object.get();
            check.due(call, x.resolve(0, a), true);
            check.due(call + ", circles", x.look(-1, 1), circles + closed);
            check.due(call + ", crossings", x.look(-1, 0), code.length - 1);
            check.due(call + ", still a code", x.fault(), 0);
        }
    }

    /** 12, terms: "the two labels that are joined become one, the lesser one". */
    private void resolveTakesTheLesserLabel() {
        for (List<Integer> order : orders(1, 50, 98, 99)) {
            int p = order.get(0);
            int q = order.get(1);
            int r = order.get(2);
            int s = order.get(3);
            int[][] code = {{p, q, r, s}, {s, r, q, p}};
            int pq = Math.min(p, q);
            int rs = Math.min(r, s);
            dueNamed(order + ", by A", true, new int[] {rs, rs, pq, pq}, code);
            int qr = Math.min(q, r);
            int sp = Math.min(s, p);
            dueNamed(order + ", by B", false, new int[] {sp, qr, qr, sp}, code);
        }
    }

    /** 12, terms: "then the two others, as they are named then". */
    private void resolveTakesTheOthersAsTheyAreNamedThen() {
        for (List<Integer> order : orders(1, 50, 98, 99)) {
            int p = order.get(0);
            int q = order.get(1);
            int r = order.get(2);
            int kink = order.get(3);
            int least = Math.min(p, Math.min(q, r));
            int[] then = {least, least, kink, kink};
            int[] other = {q, r, kink, kink};
            dueNamed(order + ", place 2, by A", true, then, new int[] {p, q, p, r}, other);
            dueNamed(order + ", place 3, by A", true, then, new int[] {p, q, r, p}, other);
            dueNamed(order + ", place 3, by B", false, then, new int[] {r, p, q, p}, other);
            dueNamed(order + ", place 0, by B", false, then, new int[] {p, p, q, r}, other);
        }
    }

    /** The first crossing of the code is resolved, standing before the other and behind it. */
    private void dueNamed(String name, boolean a, int[] then, int[]... code) {
        for (int k = 0; k < 2; k++) {
            String call = "12: " + name + ", crossing " + k;
            BracketSweep x = ofLabels(9, code[k], code[1 - k]);
            check.due(call, x.resolve(k, a), true);
            dueCrossing(call, x, 0, 1, then);
            check.due(call + ", circles", x.look(-1, 1), 9);
            check.due(call + ", crossings", x.look(-1, 0), 1);
            check.due(call + ", a code", x.fault(), 0);
        }
    }

    /** 12: "Crossings behind it count one less." */
    private void resolveCountsThoseBehindOneLess() {
        for (int k = 0; k < 10; k++) {
            BracketSweep x = tenKinksToTell();
            check.due("12: resolve(" + k + ", false) of ten", x.resolve(k, false), true);
            check.due("12: nine", x.look(-1, 0), 9);
            check.due("12: one circle", x.look(-1, 1), 1);
            for (int i = 0; i < 9; i++) {
                dueKink("12: " + k + " resolved, crossing " + i, x, i, i < k ? i : i + 1);
            }
            check.due("12: no tenth", x.look(9, 0), -1000);
            check.due("12: a mask of nine", x.state(511), 10);
            check.due("12: no mask of ten", x.state(512), -1);
        }
    }

    private void resolveToTheLastOne() {
        BracketSweep x = Diagrams.kinks(9, true, 1);
        for (int n = 8; n >= 0; n--) {
            check.due("12: resolve(0, false), then " + n, x.resolve(0, false), true);
            check.due("12: then there are " + n, x.look(-1, 0), n);
            check.due("12: circles", x.look(-1, 1), 9 - n);
        }
        check.due("12: none is left", x.resolve(0, false), false);
        check.due("12: none is left for A, too", x.resolve(0, true), false);
        same("12: nine circles", Picture.of(x), Picture.of(Diagrams.circlesAlone(9)));
        BracketSweep ten = Diagrams.kinks(10, true, 1);
        for (int i = 0; i < 9; i++) {
            check.due("12: of ten", ten.resolve(9 - i, false), true);
        }
        check.due("12: a tenth circle", ten.resolve(0, false), false);
        dueCrossing("12: the last crossing stays", ten, 0, 1, 1, 1, 2, 2);
        ten.circles(8);
        check.due("12: a circle less", ten.resolve(0, false), true);
    }

    /** 13: "false when there is none." */
    private void changeTheFirstAndTheLast() {
        for (int n = 1; n <= 10; n++) {
            int next = n;
            for (int k : new int[] {0, n - 1}) {
                BracketSweep x = Diagrams.torus(n);
                int[] was = {x.look(k, 0), x.look(k, 1), x.look(k, 2), x.look(k, 3)};
                check.due("13: of " + n + ", change(" + k + ")", x.change(k), true);
                dueCrossing("13: of " + n, x, k, -1, was[1], was[2], was[3], was[0]);
                check.due("13: of " + n + ", signs", x.look(-1, 2), n - 2);
                taken("13: of " + n + ", change(" + k + ")", () -> Diagrams.torus(next),
                    o -> o.change(k));
            }
            refused("13: of " + n + ", change(" + n + ")", () -> Diagrams.torus(next),
                x -> x.change(next));
        }
    }

    private void changeNoCrossing() {
        for (Map.Entry<String, Supplier<BracketSweep>> object : objects().entrySet()) {
            String name = "13: " + object.getKey();
            refused(name + ", change(-1)", object.getValue(), x -> x.change(-1));
            refused(name + ", change(n)", object.getValue(), x -> x.change(x.look(-1, 0)));
            for (int k : NEVER_A_CROSSING) {
                refused(name + ", change(" + k + ")", object.getValue(), x -> x.change(k));
            }
        }
    }

    private void changeWithoutCode() {
        BracketSweep x = fullNoCode();
        for (int k = 0; k < 10; k++) {
            int label = 60 + 4 * k;
            check.due("13: no code, change(" + k + ")", x.change(k), true);
            dueCrossing("13: no code", x, k, k % 3 == 0 ? 1 : -1,
                label + 1, label + 2, label + 3, label);
        }
        check.due("13: no code, signs", x.look(-1, 2), -2);
        check.due("13: no code, fault()", x.fault(), 60);
    }

    /** 13: "its labels begin with the one at place 1 (its sign becomes the other one)". */
    private void changeAllTheWayRound() {
        for (int k = 0; k < 10; k++) {
            BracketSweep x = full();
            for (int i = 1; i <= 4; i++) {
                check.due("13: change(" + k + "), time " + i, x.change(k), true);
                check.due("13: sign, time " + i, x.look(k, 4), i % 2 == 0 ? 1 : -1);
                check.due("13: ten there", x.look(-1, 0), 10);
            }
            same("13: four times round", Picture.of(x), Picture.of(full()));
        }
    }

    /** 14: "Crossing k is put at place j, the others keeping their order". */
    private void moveToEveryPlace() {
        for (int k = 0; k < 10; k++) {
            for (int j = 0; j < 10; j++) {
                List<Integer> order = new ArrayList<>();
                for (int i = 0; i < 10; i++) {
                    order.add(i);
                }
                order.add(j, order.remove(k));
                BracketSweep x = tenKinksToTell();
                check.due("14: move(" + k + ", " + j + ")", x.move(k, j), true);
                for (int i = 0; i < 10; i++) {
                    dueKink("14: move(" + k + ", " + j + "), crossing " + i, x, i, order.get(i));
                }
                check.due("14: ten there", x.look(-1, 0), 10);
            }
        }
    }

    /** 14: "false when there is no such one, or j is none." */
    private void moveNoCrossingOrToNone() {
        for (int n = 1; n <= 10; n++) {
            int next = n;
            Supplier<BracketSweep> object = () -> Diagrams.torus(next);
            taken("14: of " + n + " the last to the first", object, x -> x.move(next - 1, 0));
            taken("14: of " + n + " the first to the last", object, x -> x.move(0, next - 1));
            refused("14: of " + n + " the next", object, x -> x.move(next, 0));
            refused("14: of " + n + ", to the next", object, x -> x.move(0, next));
            refused("14: of " + n + " the next, to the next", object, x -> x.move(next, next));
        }
        for (Map.Entry<String, Supplier<BracketSweep>> object : objects().entrySet()) {
            String name = "14: " + object.getKey();
            refused(name + ", move(-1, 0)", object.getValue(), x -> x.move(-1, 0));
            refused(name + ", move(0, -1)", object.getValue(), x -> x.move(0, -1));
            refused(name + ", move(-1, -1)", object.getValue(), x -> x.move(-1, -1));
            for (int k : NEVER_A_CROSSING) {
                refused(name + ", move(" + k + ", 0)", object.getValue(), x -> x.move(k, 0));
                refused(name + ", move(0, " + k + ")", object.getValue(), x -> x.move(0, k));
            }
        }
    }

    private void moveWithoutCode() {
        BracketSweep x = fullNoCode();
        check.due("14: no code, move(9, 0)", x.move(9, 0), true);
        dueCrossing("14: no code", x, 0, -1, 96, 97, 98, 99);
        dueCrossing("14: no code", x, 1, -1, 60, 61, 62, 63);
        dueCrossing("14: no code", x, 9, 1, 92, 93, 94, 95);
    }

    private void moveToItsOwnPlace() {
        for (Map.Entry<String, Supplier<BracketSweep>> object : objects().entrySet()) {
            BracketSweep x = object.getValue().get();
            int n = x.look(-1, 0);
            for (int k = 0; k < n; k++) {
                check.due("14: " + object.getKey() + ", move(" + k + ", " + k + ")",
                    x.move(k, k), true);
            }
            same("14: " + object.getKey() + ", as it was", Picture.of(x),
                Picture.of(object.getValue().get()));
        }
    }

    /** Kink number m has the labels 2 m + 1 and 2 m + 2, and the sign 1 if m is 0, 1, 5, 8 or 9. */
    private static BracketSweep tenKinksToTell() {
        BracketSweep x = new BracketSweep();
        for (int m = 0; m < 10; m++) {
            x.crossing(signOfKink(m), 2 * m + 1, 2 * m + 1, 2 * m + 2, 2 * m + 2);
        }
        return x;
    }

    private static int signOfKink(int m) {
        return (1 << m & 0b1100100011) != 0 ? 1 : -1;
    }

    private void dueKink(String call, BracketSweep x, int k, int m) {
        dueCrossing(call, x, k, signOfKink(m), 2 * m + 1, 2 * m + 1, 2 * m + 2, 2 * m + 2);
    }

    private static BracketSweep ofLabels(int circles, int[]... code) {
        BracketSweep x = new BracketSweep();
        for (int[] labels : code) {
            x.crossing(1, labels[0], labels[1], labels[2], labels[3]);
        }
        x.circles(circles);
        return x;
    }

    private static List<List<Integer>> orders(int... names) {
        List<List<Integer>> orders = new ArrayList<>();
        orders.add(new ArrayList<>());
        for (int name : names) {
            List<List<Integer>> longer = new ArrayList<>();
            for (List<Integer> order : orders) {
                for (int i = 0; i <= order.size(); i++) {
                    List<Integer> next = new ArrayList<>(order);
                    next.add(i, name);
                    longer.add(next);
                }
            }
            orders = longer;
        }
        return orders;
    }
}
