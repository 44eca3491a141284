import java.util.List;
import java.util.Map;
import java.util.function.Supplier;

/** The boundary cases of promises 1 to 5 and 11: what is given, and looked at. */
public final class BoundariesOfGivingTest extends Boundaries {
    private static final int[] NO_SIGNS = {LEAST, -257, -255, -2, 0, 2, 3, 255, 257, GREATEST};
    private static final int[] NO_LABELS = {
        LEAST, -256, -99, -1, 0, 100, 101, 128, 257, 355, 65537, GREATEST
    };

    public static void main(String[] args) {
        BoundariesOfGivingTest test = new BoundariesOfGivingTest();
        test.newObjectHasNothing();
        test.crossingTakesBothSigns();
        test.crossingRefusesOtherSigns();
        test.crossingTakesTheLeastAndTheGreatestLabel();
        test.crossingRefusesOtherLabels();
        test.crossingsAreTenAtMost();
        test.crossingIsTakenAgainWhenThereIsRoom();
        test.crossingAndCirclesAfterAsking();
        test.circlesAreAnsweredAsTheyWere();
        test.circlesAreTakenWhateverTheCrossingsAre();
        test.circlesRefuseOtherNumbers();
        test.clearLeavesNothing();
        test.faultOfOneLabelAtSoManyPlaces();
        test.faultTellsEachLabel();
        test.faultTellsTheLeast();
        test.faultOfPlacesAtOneCrossing();
        test.faultOfTheFullRow();
        test.lookAtTheFirstAndTheLastCrossing();
        test.lookAtNoCrossing();
        test.lookAtNothingThereIs();
        test.lookAtAllAtItsGreatest();
        test.lookAtWhatHasGone();
        test.check.end();
    }

    /** 1: "No crossings, no circles." */
    private void newObjectHasNothing() {
        BracketSweep x = new BracketSweep();
        check.due("1: circles(0)", x.circles(0), 0);
        check.due("1: clear()", x.clear(), 0);
        check.due("1: fault()", x.fault(), 0);
        check.due("1: state(0)", x.state(0), 0);
        for (int what = 0; what < 3; what++) {
            check.due("1: look(-1, " + what + ")", x.look(-1, what), 0);
        }
        for (int what = 0; what < 5; what++) {
            check.due("1: look(0, " + what + ")", x.look(0, what), -1000);
        }
        refused("1: sweep(0)", BracketSweep::new, o -> o.sweep(0), -1);
        refused("1: state(1)", BracketSweep::new, o -> o.state(1), -1);
        refused("1: resolve(0, true)", BracketSweep::new, o -> o.resolve(0, true));
        refused("1: resolve(0, false)", BracketSweep::new, o -> o.resolve(0, false));
        refused("1: change(0)", BracketSweep::new, o -> o.change(0));
        refused("1: move(0, 0)", BracketSweep::new, o -> o.move(0, 0));
    }

    /** 2: "-1, doing nothing, when the sign is none". */
    private void crossingTakesBothSigns() {
        BracketSweep x = new BracketSweep();
        check.due("2: sign 1", x.crossing(1, 1, 2, 3, 4), 1);
        check.due("2: sign -1", x.crossing(-1, 1, 2, 3, 4), 2);
        dueCrossing("2: sign 1", x, 0, 1, 1, 2, 3, 4);
        dueCrossing("2: sign -1", x, 1, -1, 1, 2, 3, 4);
    }

    private void crossingRefusesOtherSigns() {
        for (Map.Entry<String, Supplier<BracketSweep>> object : objects().entrySet()) {
            for (int sign : NO_SIGNS) {
                refused("2: " + object.getKey() + ", sign " + sign, object.getValue(),
                    x -> x.crossing(sign, 41, 41, 42, 42), -1);
            }
        }
    }

    /** 2: "a label is not 1 .. 99". */
    private void crossingTakesTheLeastAndTheGreatestLabel() {
        for (int place = 0; place < 4; place++) {
            for (int label = 1; label <= 99; label += 98) {
                int[] labels = {50, 51, 52, 53};
                labels[place] = label;
                BracketSweep x = new BracketSweep();
                String call = "2: label " + label + " at place " + place;
                check.due(call, give(x, 1, labels), 1);
                dueCrossing(call, x, 0, 1, labels);
            }
        }
        BracketSweep x = new BracketSweep();
        check.due("2: 1 everywhere", x.crossing(1, 1, 1, 1, 1), 1);
        check.due("2: 99 everywhere", x.crossing(1, 99, 99, 99, 99), 2);
    }

    private void crossingRefusesOtherLabels() {
        for (Map.Entry<String, Supplier<BracketSweep>> object : objects().entrySet()) {
            for (int place = 0; place < 4; place++) {
                for (int label : NO_LABELS) {
                    int[] labels = {41, 41, 42, 42};
                    labels[place] = label;
                    refused("2: " + object.getKey() + ", label " + label + " at place " + place,
                        object.getValue(), x -> give(x, -1, labels), -1);
                }
            }
        }
        refused("2: nothing is right", BracketSweep::new, x -> x.crossing(0, 0, 100, -1, 0), -1);
    }

    /** 2: "or there are 10". */
    private void crossingsAreTenAtMost() {
        BracketSweep x = new BracketSweep();
        for (int n = 1; n <= 10; n++) {
            check.due("2: crossing " + n, x.crossing(1, n, n, n + 10, n + 10), n);
            dueCrossing("2: crossing " + n, x, n - 1, 1, n, n, n + 10, n + 10);
        }
        dueCrossing("2: the first is as it was", x, 0, 1, 1, 1, 11, 11);
        refused("2: an eleventh", Boundaries::full, o -> o.crossing(1, 41, 41, 42, 42), -1);
        refused("2: an eleventh, sign -1", Boundaries::full,
            o -> o.crossing(-1, 41, 41, 42, 42), -1);
        refused("2: an eleventh, no code", Boundaries::fullNoCode,
            o -> o.crossing(1, 60, 61, 62, 63), -1);
    }

    private void crossingIsTakenAgainWhenThereIsRoom() {
        BracketSweep x = full();
        check.due("2: resolved", x.resolve(9, true), true);
        check.due("2: a tenth again", x.crossing(-1, 41, 41, 42, 42), 10);
        dueCrossing("2: a tenth again", x, 9, -1, 41, 41, 42, 42);
        check.due("2: an eleventh again", x.crossing(1, 43, 43, 44, 44), -1);
        x.clear();
        check.due("2: a first again", x.crossing(1, 43, 43, 44, 44), 1);
        dueCrossing("2: a first again", x, 0, 1, 43, 43, 44, 44);
    }

    /** What was asked before is not answered any more. */
    private void crossingAndCirclesAfterAsking() {
        for (Map.Entry<String, Supplier<BracketSweep>> object : objects().entrySet()) {
            String name = object.getKey();
            for (int n = 0; n <= 9; n++) {
                int circles = n;
                int before = object.getValue().get().look(-1, 1);
                taken("3: " + name + ", circles(" + n + ")", object.getValue(),
                    x -> x.circles(circles), before);
            }
            int crossings = object.getValue().get().look(-1, 0);
            if (crossings < 10) {
                taken("2: " + name + ", crossing of a code", object.getValue(),
                    x -> x.crossing(-1, 97, 98, 97, 98), crossings + 1);
                taken("2: " + name + ", crossing of no code", object.getValue(),
                    x -> x.crossing(-1, 97, 98, 99, 98), crossings + 1);
            }
            taken("4: " + name + ", clear()", object.getValue(), x -> x.clear(), crossings);
        }
    }

    /** 3: "So many circles: how many there were. (That is how many there are then.)" */
    private void circlesAreAnsweredAsTheyWere() {
        for (int n = 0; n <= 9; n++) {
            for (int m = 0; m <= 9; m++) {
                BracketSweep x = new BracketSweep();
                check.due("3: circles(" + n + ")", x.circles(n), 0);
                check.due("3: circles(" + m + ") after " + n, x.circles(m), n);
                check.due("3: there are " + m, x.look(-1, 1), m);
            }
        }
    }

    private void circlesAreTakenWhateverTheCrossingsAre() {
        for (Map.Entry<String, Supplier<BracketSweep>> object : objects().entrySet()) {
            for (int n = 0; n <= 9; n += 9) {
                BracketSweep x = object.getValue().get();
                int before = x.look(-1, 1);
                String call = "3: " + object.getKey() + ", circles(" + n + ")";
                check.due(call, x.circles(n), before);
                check.due(call + ", then", x.look(-1, 1), n);
                x.circles(before);
                same(call + " and back", Picture.of(x), Picture.of(object.getValue().get()));
            }
        }
    }

    /** 3: "-1, doing nothing, when n is not 0 .. 9." */
    private void circlesRefuseOtherNumbers() {
        for (Map.Entry<String, Supplier<BracketSweep>> object : objects().entrySet()) {
            for (int n : new int[] {LEAST, -256, -9, -1, 10, 11, 256, 265, 65536, GREATEST}) {
                refused("3: " + object.getKey() + ", circles(" + n + ")", object.getValue(),
                    x -> x.circles(n), -1);
            }
        }
    }

    /** 4: "All goes: how many crossings there were. (Circles, too.)" */
    private void clearLeavesNothing() {
        List<String> nothing = Picture.of(new BracketSweep());
        for (Map.Entry<String, Supplier<BracketSweep>> object : objects().entrySet()) {
            BracketSweep x = object.getValue().get();
            x.bracket(0);
            x.sweep(x.look(-1, 0) - 1);
            int before = x.look(-1, 0);
            check.due("4: " + object.getKey() + ", clear()", x.clear(), before);
            same("4: " + object.getKey() + ", cleared", Picture.of(x), nothing);
        }
        BracketSweep x = full();
        check.due("4: ten", x.clear(), 10);
        check.due("4: none", x.clear(), 0);
        check.due("4: no circles left", x.circles(1), 0);
        check.due("4: a circle is no crossing", x.clear(), 0);
        check.due("4: no circle left", x.look(-1, 1), 0);
    }

    /** 5: "Whether the crossings are a code: 0": every label there is stands at just two places. */
    private void faultOfOneLabelAtSoManyPlaces() {
        check.due("5: no label at all", new BracketSweep().fault(), 0);
        check.due("5: circles have no label", Diagrams.circlesAlone(9).fault(), 0);
        for (int n = 0; n <= 40; n++) {
            BracketSweep x = new BracketSweep();
            int[] row = new int[40];
            for (int place = 0; place < 40; place++) {
                row[place] = place < n ? 1 : 2 + (place - n) / 2;
            }
            giveRow(x, row);
            check.due("5: 1 at " + n + " places", x.fault(), n == 0 || n == 2 ? 0 : 1);
        }
    }

    /** 5: "otherwise the least label that does not stand at two places." */
    private void faultTellsEachLabel() {
        for (int label = 1; label <= 99; label++) {
            int other = label == 50 ? 49 : 50;
            BracketSweep x = new BracketSweep();
            x.crossing(1, other, label, label, label);
            check.due("5: one or three of " + label, x.fault(), Math.min(label, other));
            x.clear();
            x.crossing(1, label, label, label, label);
            check.due("5: four of " + label, x.fault(), label);
            x.clear();
            x.crossing(1, label, label, other, other);
            check.due("5: two of " + label, x.fault(), 0);
        }
    }

    private void faultTellsTheLeast() {
        BracketSweep x = new BracketSweep();
        x.crossing(1, 99, 98, 97, 96);
        check.due("5: the last place's", x.fault(), 96);
        x.crossing(1, 96, 2, 2, 97);
        check.due("5: 98 before 99", x.fault(), 98);
        x.crossing(1, 98, 1, 1, 99);
        check.due("5: none", x.fault(), 0);
        x.crossing(1, 99, 1, 3, 3);
        check.due("5: three of 1, three of 99", x.fault(), 1);
        x.clear();
        check.due("5: cleared", x.fault(), 0);
    }

    /** Both places of a label may be at one crossing. */
    private void faultOfPlacesAtOneCrossing() {
        int[][] codes = {{1, 1, 2, 2}, {1, 2, 1, 2}, {1, 2, 2, 1}};
        for (int[] code : codes) {
            BracketSweep x = new BracketSweep();
            give(x, 1, code);
            check.due("5: a code of one crossing", x.fault(), 0);
        }
        for (int place = 0; place < 4; place++) {
            int[] labels = {7, 7, 7, 7};
            labels[place] = 9;
            BracketSweep x = new BracketSweep();
            give(x, 1, labels);
            check.due("5: three at one crossing, 9 at " + place, x.fault(), 7);
        }
    }

    private void faultOfTheFullRow() {
        check.due("5: full", full().fault(), 0);
        check.due("5: forty labels", fullNoCode().fault(), 60);
        int[] row = new int[40];
        for (int place = 0; place < 40; place++) {
            row[place] = 1 + place / 2;
        }
        for (int place = 0; place < 40; place++) {
            int[] wrong = row.clone();
            wrong[place] = 99;
            BracketSweep x = new BracketSweep();
            giveRow(x, wrong);
            check.due("5: 99 at place " + place % 4 + " of " + place / 4, x.fault(), row[place]);
        }
    }

    /** 11: "Of crossing k: 0 to 3 its labels, 4 its sign". */
    private void lookAtTheFirstAndTheLastCrossing() {
        BracketSweep x = new BracketSweep();
        for (int n = 1; n <= 10; n++) {
            int sign = n % 2 == 0 ? 1 : -1;
            x.crossing(sign, n, n + 20, n + 40, n + 60);
            dueCrossing("11: of " + n + " the first", x, 0, -1, 1, 21, 41, 61);
            dueCrossing("11: of " + n + " the last", x, n - 1, sign, n, n + 20, n + 40, n + 60);
            check.due("11: how many crossings", x.look(-1, 0), n);
            for (int what = 0; what <= 4; what++) {
                check.due("11: look(" + n + ", " + what + ")", x.look(n, what), -1000);
            }
        }
    }

    /** 11: "-1000 for others": no such crossing. */
    private void lookAtNoCrossing() {
        for (Map.Entry<String, Supplier<BracketSweep>> object : objects().entrySet()) {
            BracketSweep x = object.getValue().get();
            String name = "11: " + object.getKey();
            int n = x.look(-1, 0);
            for (int what = -1; what <= 5; what++) {
                check.due(name + ", look(" + n + ", " + what + ")", x.look(n, what), -1000);
                for (int k : NEVER_A_CROSSING) {
                    check.due(name + ", look(" + k + ", " + what + ")", x.look(k, what), -1000);
                }
            }
            refused(name + ", look at none", object.getValue(), o -> o.look(n, 0), -1000);
        }
    }

    /** 11: "-1000 for others": nothing there is to be told of a crossing, or of all. */
    private void lookAtNothingThereIs() {
        int[] others = {LEAST, LEAST + 4, -256, -4, -2, -1, 5, 6, 256, 260, 1 << 30, GREATEST};
        for (Map.Entry<String, Supplier<BracketSweep>> object : objects().entrySet()) {
            BracketSweep x = object.getValue().get();
            String name = "11: " + object.getKey();
            for (int what : others) {
                for (int k = -1; k < x.look(-1, 0); k++) {
                    check.due(name + ", look(" + k + ", " + what + ")", x.look(k, what), -1000);
                }
            }
            check.due(name + ", look(-1, 3)", x.look(-1, 3), -1000);
            check.due(name + ", look(-1, 4)", x.look(-1, 4), -1000);
            refused(name + ", look at nothing", object.getValue(), o -> o.look(-1, 3), -1000);
            refused(name + ", look past all", object.getValue(), o -> o.look(0, 5), -1000);
        }
    }

    /** 11: "of all (k -1): 0 how many crossings, 1 circles, 2 the sum of signs." */
    private void lookAtAllAtItsGreatest() {
        for (int sign = -1; sign <= 1; sign += 2) {
            BracketSweep x = Diagrams.kinks(10, true, sign);
            x.circles(9);
            check.due("11: ten crossings", x.look(-1, 0), 10);
            check.due("11: nine circles", x.look(-1, 1), 9);
            check.due("11: ten signs", x.look(-1, 2), 10 * sign);
        }
        check.due("11: no code, crossings", fullNoCode().look(-1, 0), 10);
        check.due("11: no code, circles", fullNoCode().look(-1, 1), 9);
        check.due("11: no code, signs", fullNoCode().look(-1, 2), 2);
        check.due("11: signs that make 0", Diagrams.figureEight().look(-1, 2), 0);
    }

    private void lookAtWhatHasGone() {
        BracketSweep x = Diagrams.kinks(2, true, -1);
        x.resolve(0, false);
        dueCrossing("11: what was behind", x, 0, -1, 3, 3, 4, 4);
        for (int what = 0; what <= 4; what++) {
            check.due("11: resolved, look(1, " + what + ")", x.look(1, what), -1000);
        }
        check.due("11: its sign has gone", x.look(-1, 2), -1);
        x.clear();
        for (int what = 0; what <= 4; what++) {
            check.due("11: cleared, look(0, " + what + ")", x.look(0, what), -1000);
        }
        check.due("11: all signs have gone", x.look(-1, 2), 0);
    }

    private static int give(BracketSweep x, int sign, int... labels) {
        return x.crossing(sign, labels[0], labels[1], labels[2], labels[3]);
    }

    private static void giveRow(BracketSweep x, int... row) {
        for (int place = 0; place + 3 < row.length; place += 4) {
            x.crossing(1, row[place], row[place + 1], row[place + 2], row[place + 3]);
        }
    }
}
