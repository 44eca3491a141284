import java.util.ArrayList;
import java.util.List;

/**
 * All that an object tells, a row for each call, so that two objects can be compared. It takes
 * some 400 calls: an object that has made under 100 before stays within the document's 512.
 */
final class Picture {
    private Picture() {
    }

    static List<String> of(BracketSweep x) {
        List<String> rows = new ArrayList<>();
        looks(x, rows);
        polynomials(x, rows);
        for (int bit = 0; bit < 11; bit++) {
            rows.add("state(" + (1 << bit) + ") = " + x.state(1 << bit));
            rows.add("state(" + ((1 << bit) - 1) + ") = " + x.state((1 << bit) - 1));
        }
        for (int k = 0; k < 10; k++) {
            rows.add("sweep(" + k + ") = " + x.sweep(k));
        }
        return rows;
    }

    private static void looks(BracketSweep x, List<String> rows) {
        for (int what = 0; what < 3; what++) {
            rows.add("look(-1, " + what + ") = " + x.look(-1, what));
        }
        for (int k = 0; k < 10; k++) {
            for (int what = 0; what < 5; what++) {
                rows.add("look(" + k + ", " + what + ") = " + x.look(k, what));
            }
        }
        rows.add("fault() = " + x.fault());
    }

    private static void polynomials(BracketSweep x, List<String> rows) {
        for (int e = -66; e <= 66; e++) {
            rows.add("bracket(" + e + ") = " + x.bracket(e));
        }
        for (int e = -96; e <= 96; e++) {
            rows.add("jones(" + e + ") = " + x.jones(e));
        }
        for (int i = 0; i < 4; i++) {
            boolean jones = i / 2 == 1;
            boolean high = i % 2 == 1;
            rows.add("span(" + jones + ", " + high + ") = " + x.span(jones, high));
        }
    }
}
