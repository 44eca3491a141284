/** Diagrams that the tests share. */
final class Diagrams {
    private Diagrams() {
    }

    static BracketSweep circlesAlone(int n) {
        BracketSweep x = new BracketSweep();
        x.circles(n);
        return x;
    }

    static BracketSweep trefoil() {
        BracketSweep x = new BracketSweep();
        x.crossing(1, 1, 5, 2, 4);
        x.crossing(1, 3, 1, 4, 6);
        x.crossing(1, 5, 3, 6, 2);
        return x;
    }

    /** Smoothed by B the kink is a circle beside the strand: it is a factor - A^-3. */
    static BracketSweep kinkedTrefoil(int sign) {
        BracketSweep x = new BracketSweep();
        x.crossing(1, 7, 5, 2, 4);
        x.crossing(1, 3, 1, 4, 6);
        x.crossing(1, 5, 3, 6, 2);
        x.crossing(sign, 1, 8, 8, 7);
        return x;
    }

    static BracketSweep figureEight() {
        BracketSweep x = new BracketSweep();
        x.crossing(1, 4, 2, 5, 1);
        x.crossing(1, 8, 6, 1, 5);
        x.crossing(-1, 6, 3, 7, 4);
        x.crossing(-1, 2, 7, 3, 8);
        return x;
    }

    /** Two strands that cross n times upwards and are closed: smoothed by A they go straight on. */
    static BracketSweep torus(int n) {
        BracketSweep x = new BracketSweep();
        for (int i = 0; i < n; i++) {
            int next = (i + 1) % n;
            x.crossing(1, 2 * i + 2, 2 * next + 2, 2 * next + 1, 2 * i + 1);
        }
        return x;
    }

    /** So many parts of one crossing each; two circles by A, one by B, or the other way round. */
    static BracketSweep kinks(int n, boolean twoByA, int sign) {
        BracketSweep x = new BracketSweep();
        for (int i = 0; i < n; i++) {
            int p = 2 * i + 1;
            int q = 2 * i + 2;
            if (twoByA) {
                x.crossing(sign, p, p, q, q);
            } else {
                x.crossing(sign, p, q, q, p);
            }
        }
        return x;
    }

    /** Crossing 2 has one place on 0 and one on 1; 0 opens more labels than 1. */
    static BracketSweep tieOfTwo() {
        BracketSweep x = new BracketSweep();
        x.crossing(1, 1, 3, 4, 5);
        x.crossing(1, 2, 6, 6, 3);
        x.crossing(1, 1, 2, 9, 9);
        x.crossing(1, 4, 5, 8, 8);
        return x;
    }
}
