/** Promises 7 to 10: makes, wins, best, spend. */
public final class BattingTest {
    private static final String BOLD = "overs 4;men 2;mood 0 2 0 10;mood 2 8 1 5 0 0 5";

    public static void main(String[] args) {
        makes();
        wins();
        longest();
        best();
        spend();
        outside();
        Check.end();
    }

    private static void makes(RainTarget x, int u, int v, long above, long below) {
        Check.due("makes(" + u + ", " + v + ", 0)", x.makes(u, v, 0), above);
        Check.due("makes(" + u + ", " + v + ", 1)", x.makes(u, v, 1), below);
    }

    private static void wins(RainTarget x, int u, int v, int n, long above, long below) {
        Check.due("wins(" + u + ", " + v + ", " + n + ", 0)", x.wins(u, v, n, 0), above);
        Check.due("wins(" + u + ", " + v + ", " + n + ", 1)", x.wins(u, v, n, 1), below);
    }

    /** Mood 2 brings 4 in the mean and costs half a man; mood 0 brings 2 and costs none. */
    private static void makes() {
        RainTarget x = Check.told(BOLD, 4);
        makes(x, 0, 0, 0, 1);
        makes(x, 0, 2, 0, 1);
        makes(x, 4, 0, 0, 1);
        makes(x, 1, 1, 4, 1);
        makes(x, 2, 1, 6, 1);
        makes(x, 3, 1, 8, 1);
        makes(x, 4, 1, 10, 1);
        makes(x, 1, 2, 4, 1);
        makes(x, 2, 2, 8, 1);
        makes(x, 3, 2, 11, 1);
        makes(x, 4, 2, 27, 2);
        RainTarget y = Check.told("mood 0 1 0 3 0 3 7", 1);
        makes(y, 1, 3, 3, 10);
        makes(y, 2, 3, 39, 100);
        makes(y, 6, 3, 428259, 1000000);
    }

    private static void wins() {
        RainTarget x = Check.told(BOLD, 4);
        wins(x, 0, 0, 0, 1, 1);
        wins(x, 0, 2, 1, 0, 1);
        wins(x, 4, 0, 1, 0, 1);
        wins(x, 1, 1, 2, 1, 1);
        wins(x, 1, 1, 3, 1, 2);
        wins(x, 1, 1, 8, 1, 2);
        wins(x, 1, 1, 9, 0, 1);
        wins(x, 2, 1, 4, 1, 1);
        wins(x, 2, 1, 5, 3, 4);
        wins(x, 2, 1, 10, 1, 2);
        wins(x, 2, 1, 11, 0, 1);
        wins(x, 2, 2, 16, 1, 4);
        wins(x, 3, 2, 16, 1, 2);
        wins(x, 4, 2, 16, 11, 16);
        wins(x, 4, 2, 8, 1, 1);
        wins(x, 4, 2, 999, 0, 1);
    }

    /** Twelve overs want denominators of twelve digits. */
    private static void longest() {
        RainTarget x = Check.told("overs 12;men 10;mood 0 36 0 9 35 3 1", 3);
        wins(x, 12, 10, 432, 282429536481L, 1000000000000L);
        wins(x, 12, 10, 433, 0, 1);
        RainTarget y = Check.told("overs 12;men 10;mood 0 36 0 1 0 0 9", 3);
        wins(y, 12, 10, 432, 1, 1000000000000L);
        wins(y, 12, 1, 397, 1, 1000000000000L);
        wins(y, 12, 1, 396, 109, 1000000000000L);
        makes(y, 12, 10, 216, 5);
        RainTarget z = Check.told("overs 12;men 10;mood 0 36 0 7 1 1 3", 3);
        makes(z, 12, 10, 6119972896509L, 20000000000L);
    }

    private static void best() {
        RainTarget x = Check.told(BOLD, 4);
        Check.due("best mean, one over", x.best(1, 1, RainTarget.NONE), 2);
        Check.due("best mean, equal moods", x.best(2, 1, RainTarget.NONE), 0);
        Check.due("best mean, four overs", x.best(4, 2, RainTarget.NONE), 2);
        Check.due("best for 2", x.best(1, 1, 2), 0);
        Check.due("best for 3", x.best(1, 1, 3), 2);
        Check.due("best out of reach", x.best(1, 1, 9), 0);
        Check.due("best for 999", x.best(4, 2, 999), 0);
        Check.due("no overs", x.best(0, 2, 5), RainTarget.NONE);
        Check.due("no men", x.best(4, 0, RainTarget.NONE), RainTarget.NONE);
        Check.due("n 0", x.best(4, 2, 0), RainTarget.NONE);
        Check.due("n -2", x.best(4, 2, -2), RainTarget.OUTSIDE);
        Check.due("n 1000", x.best(4, 2, 1000), RainTarget.OUTSIDE);
        Check.due("OUTSIDE ahead of NONE", x.best(0, 3, 0), RainTarget.OUTSIDE);
        Check.due("OUTSIDE ahead of NONE", x.best(0, 0, 1000), RainTarget.OUTSIDE);
        RainTarget y = Check.told("mood 3 4 0 10;mood 1 4 0 10", 2);
        Check.due("the least of equal moods", y.best(3, 3, RainTarget.NONE), 0);
        Check.tell(y, "mood 0 3 0 10", 1);
        Check.due("the least of the rest", y.best(3, 3, RainTarget.NONE), 1);
        Check.due("the least of the rest", y.best(3, 3, 12), 1);
    }

    private static void spend() {
        RainTarget x = Check.told(BOLD, 4);
        int[][] spends = {{0, 0, 0}, {0, 2, 0}, {4, 0, 0}, {1, 1, 296}, {2, 1, 444}, {3, 1, 592},
            {4, 1, 740}, {1, 2, 296}, {2, 2, 592}, {3, 2, 814}, {4, 2, 1000}};
        for (int[] s : spends) {
            Check.due("spend(" + s[0] + ", " + s[1] + ")", x.spend(s[0], s[1]), s[2]);
        }
        RainTarget none = Check.told("mood 0 0 0 10", 1);
        Check.due("spend of nothing", none.spend(6, 3), 0);
        RainTarget most = Check.told("overs 12;men 10;mood 0 36 0 10", 3);
        Check.due("spend(12, 10)", most.spend(12, 10), 1000);
        Check.due("spend(11, 1)", most.spend(11, 1), 916);
        Check.tell(most, "overs 11", 1);
        Check.due("spend by fewer overs", most.spend(10, 1), 909);
    }

    private static void outside() {
        RainTarget x = Check.told(BOLD, 4);
        int[][] wrong = {{-1, 1}, {5, 1}, {1, -1}, {1, 3}, {Integer.MAX_VALUE, 1}, {1, Integer.MIN_VALUE}};
        for (int[] w : wrong) {
            String at = "(" + w[0] + ", " + w[1] + ")";
            Check.due("makes" + at, x.makes(w[0], w[1], 0), RainTarget.OUTSIDE);
            Check.due("wins" + at, x.wins(w[0], w[1], 1, 0), RainTarget.OUTSIDE);
            Check.due("best" + at, x.best(w[0], w[1], 1), RainTarget.OUTSIDE);
            Check.due("spend" + at, x.spend(w[0], w[1]), RainTarget.OUTSIDE);
        }
        for (int part : new int[] {-1, 2, Integer.MAX_VALUE}) {
            Check.due("makes part " + part, x.makes(1, 1, part), RainTarget.OUTSIDE);
            Check.due("wins part " + part, x.wins(1, 1, 1, part), RainTarget.OUTSIDE);
        }
        for (int n : new int[] {-1, 1000, Integer.MIN_VALUE}) {
            Check.due("wins n " + n, x.wins(1, 1, n, 0), RainTarget.OUTSIDE);
        }
    }
}
