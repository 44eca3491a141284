import java.math.BigInteger;
import java.util.ArrayList;
import java.util.List;
import java.util.TreeMap;

/** Every code of one, two and three crossings, compared with the plain model. */
public final class SmallCodesTest {
    private final Check check = new Check();

    public static void main(String[] args) {
        SmallCodesTest test = new SmallCodesTest();
        test.pair(new int[4], 1);
        test.pair(new int[8], 1);
        test.pair(new int[12], 1);
        test.check.end();
    }

    /** Puts the next label at the first free place and, by turns, at each free one behind it. */
    private void pair(int[] row, int label) {
        int first = 0;
        while (first < row.length && row[first] != 0) {
            first++;
        }
        if (first == row.length) {
            compareWithNames(row);
            return;
        }
        row[first] = label;
        for (int second = first + 1; second < row.length; second++) {
            if (row[second] == 0) {
                row[second] = label;
                pair(row, label + 1);
                row[second] = 0;
            }
        }
        row[first] = 0;
    }

    /** The labels in three orders, as it depends on them which one is the lesser. */
    private void compareWithNames(int[] row) {
        int[] backwards = new int[row.length];
        int[] mixed = new int[row.length];
        for (int i = 0; i < row.length; i++) {
            backwards[i] = 100 - row[i];
            mixed[i] = row[i] * 5 % 13 * 8;
        }
        compare(row);
        compare(backwards);
        compare(mixed);
    }

    private void compare(int[] row) {
        int n = row.length / 4;
        BracketSweep real = real(row);
        PlainModel model = model(row);
        String name = name(row);
        for (int mask = 0; mask < 1 << n; mask++) {
            check.due(name + ".state(" + mask + ")", real.state(mask), model.state(mask));
        }
        for (int k = 0; k < n; k++) {
            check.due(name + ".sweep(" + k + ")", real.sweep(k), model.sweep(k));
            compareResolved(row, k, true);
            compareResolved(row, k, false);
        }
        TreeMap<Integer, BigInteger> bracket = model.bracket();
        for (int e = -17; e <= 17; e++) {
            long want = bracket.getOrDefault(e, BigInteger.ZERO).longValueExact();
            check.due(name + ".bracket(" + e + ")", real.bracket(e), want);
        }
    }

    private void compareResolved(int[] row, int k, boolean a) {
        BracketSweep real = real(row);
        PlainModel model = model(row);
        String name = name(row) + ".resolve(" + k + ", " + a + ")";
        check.due(name, real.resolve(k, a), model.resolve(k, a));
        check.due(name + ", circles", real.look(-1, 1), model.look(-1, 1));
        for (int i = 0; i <= 2; i++) {
            for (int what = 0; what <= 4; what++) {
                check.due(name + ", look(" + i + ", " + what + ")",
                    real.look(i, what), model.look(i, what));
            }
        }
    }

    private static String name(int[] row) {
        List<Integer> labels = new ArrayList<>();
        for (int label : row) {
            labels.add(label);
        }
        return labels.toString();
    }

    private static BracketSweep real(int[] row) {
        BracketSweep x = new BracketSweep();
        for (int i = 0; i < row.length; i += 4) {
            x.crossing(i % 8 == 0 ? 1 : -1, row[i], row[i + 1], row[i + 2], row[i + 3]);
        }
        return x;
    }

    private static PlainModel model(int[] row) {
        PlainModel x = new PlainModel();
        for (int i = 0; i < row.length; i += 4) {
            x.crossing(i % 8 == 0 ? 1 : -1, row[i], row[i + 1], row[i + 2], row[i + 3]);
        }
        return x;
    }
}
