/** Edges of promises 7 to 10, sentence by sentence. */
public final class BattingEdgesTest {
    private static final int NONE = RainTarget.NONE;
    private static final int OUTSIDE = RainTarget.OUTSIDE;
    private static final String LEAST = "overs 1;men 1";
    private static final String MOST = "overs 12;men 10";

    public static void main(String[] args) {
        outsideOfAllSides();
        outsideFollowsTheText();
        makesOfNone();
        makesEndsWithTheMen();
        makesOfTheMost();
        winsOfNone();
        winsToTheLastRun();
        winsOfTheMost();
        lowestTerms();
        bestIsNone();
        bestOfEqualMoods();
        bestLooksAtToldMoodsAlone();
        spendOfNoneAndAll();
        spendOfNothing();
        Check.end();
    }

    private static void parts(String what, long above, long below, long dueAbove, long dueBelow) {
        Check.due(what + ", above", above, dueAbove);
        Check.due(what + ", below", below, dueBelow);
    }

    private static void makes(RainTarget x, int u, int v, long above, long below) {
        parts("makes(" + u + ", " + v + ")", x.makes(u, v, 0), x.makes(u, v, 1), above, below);
    }

    private static void wins(RainTarget x, int u, int v, int n, long above, long below) {
        parts("wins(" + u + ", " + v + ", " + n + ")", x.wins(u, v, n, 0), x.wins(u, v, n, 1), above, below);
    }

    /** 7 to 10: "OUTSIDE: u (0 .. OVERS), v (0 .. MEN), part", "n (0 .. 999)", "n from NONE on". */
    private static void outsideOf(String side, Edge.State state, int overs, int men) {
        for (int other : new int[] {0, 1}) {
            Edge.bounds(side + "makes u", state, (x, u) -> x.makes(u, other, other), 0, overs, OUTSIDE);
            Edge.bounds(side + "makes v", state, (x, v) -> x.makes(other, v, other), 0, men, OUTSIDE);
            Edge.bounds(side + "makes part", state, (x, part) -> x.makes(other, other, part), 0, 1, OUTSIDE);
            Edge.bounds(side + "wins u", state, (x, u) -> x.wins(u, other, other, other), 0, overs, OUTSIDE);
            Edge.bounds(side + "wins v", state, (x, v) -> x.wins(other, v, other, other), 0, men, OUTSIDE);
            Edge.bounds(side + "wins n", state, (x, n) -> x.wins(other, other, n, other), 0, 999, OUTSIDE);
            Edge.bounds(side + "wins part", state, (x, part) -> x.wins(other, other, other, part), 0, 1, OUTSIDE);
            Edge.bounds(side + "best u", state, (x, u) -> x.best(u, other, other), 0, overs, OUTSIDE);
            Edge.bounds(side + "best v", state, (x, v) -> x.best(other, v, other), 0, men, OUTSIDE);
            Edge.bounds(side + "best n", state, (x, n) -> x.best(other, other, n), NONE, 999, OUTSIDE);
            Edge.bounds(side + "spend u", state, (x, u) -> x.spend(u, other), 0, overs, OUTSIDE);
            Edge.bounds(side + "spend v", state, (x, v) -> x.spend(other, v), 0, men, OUTSIDE);
        }
    }

    private static void outsideOfAllSides() {
        outsideOf("new: ", RainTarget::new, 6, 3);
        outsideOf("least: ", () -> Check.told(LEAST, 2), 1, 1);
        outsideOf("most: ", () -> Check.told(MOST, 2), 12, 10);
        outsideOf("midway: ", Edge::midway, 8, 4);
        outsideOf("full: ", Edge::full, 12, 10);
        outsideOf("without men: ", Edge::withoutMen, 3, 2);
    }

    /** Of all OVERS and MEN, not of those that the second side has left; a text that is not done tells nothing. */
    private static void outsideFollowsTheText() {
        RainTarget x = new RainTarget();
        x.rain(6);
        Check.due("makes of all overs, none being left", x.makes(6, 3, 0), 24);
        Check.write(x, "overs 7;men 4");
        Check.due("makes ahead of game", x.makes(7, 4, 0), OUTSIDE);
        Check.due("game", x.game(), 2);
        Check.due("makes behind game", x.makes(7, 4, 0), 28);
        Check.tell(x, "overs 5;men 2", 2);
        Check.due("makes with fewer overs", x.makes(6, 2, 0), OUTSIDE);
        Check.due("makes with fewer men", x.makes(5, 3, 0), OUTSIDE);
        Check.due("makes with these", x.makes(5, 2, 0), 20);
    }

    /** 7: MAKES with no OVERS or no MEN. */
    private static void makesOfNone() {
        for (String text : new String[] {LEAST, MOST}) {
            RainTarget x = Check.told(text, 2);
            makes(x, 0, 0, 0, 1);
            makes(x, 0, x.count(1), 0, 1);
            makes(x, x.count(0), 0, 0, 1);
            makes(x, 1, 1, 4, 1);
        }
        RainTarget none = Check.told("overs 12;men 10;mood 0 0 3 10", 3);
        makes(none, 12, 10, 0, 1);
    }

    /** Terms: "OUTS MEN are less; with none left it is over", the RUNS of that OVER being made. */
    private static void makesEndsWithTheMen() {
        RainTarget x = Check.told("overs 12;men 10;mood 0 5 3 10", 3);
        int[] due = {0, 5, 5, 5, 10, 10, 10, 15, 15, 15, 20};
        for (int v = 0; v <= 10; v++) {
            makes(x, 12, v, due[v], 1);
            wins(x, 12, v, due[v], 1, 1);
            wins(x, 12, v, due[v] + 1, 0, 1);
        }
        RainTarget one = Check.told("overs 12;men 10;mood 0 5 1 10", 3);
        makes(one, 12, 10, 50, 1);
        makes(one, 10, 10, 50, 1);
        makes(one, 9, 10, 45, 1);
    }

    private static void makesOfTheMost() {
        RainTarget x = Check.told("overs 12;men 10;mood 3 36 0 10", 3);
        makes(x, 12, 10, 432, 1);
        makes(x, 12, 1, 432, 1);
        makes(x, 1, 1, 36, 1);
        RainTarget least = Check.told("overs 12;men 10;mood 0 1 0 1 0 3 9", 3);
        makes(least, 1, 1, 1, 10);
        makes(least, 12, 1, 111111111111L, 1000000000000L);
    }

    /** Terms: "(n 0 or less: 1)": with whatever is left; 1 run is too many for no OVERS or no MEN. */
    private static void winsOfNone() {
        for (String text : new String[] {LEAST, MOST}) {
            RainTarget x = Check.told(text, 2);
            int overs = x.count(0);
            int men = x.count(1);
            for (int[] left : new int[][] {{0, 0}, {0, men}, {overs, 0}, {overs, men}}) {
                wins(x, left[0], left[1], 0, 1, 1);
                boolean can = left[0] > 0 && left[1] > 0;
                wins(x, left[0], left[1], 1, can ? 1 : 0, 1);
            }
        }
        RainTarget none = Check.told("mood 0 0 0 10", 1);
        wins(none, 6, 3, 0, 1, 1);
        wins(none, 6, 3, 1, 0, 1);
    }

    private static void winsToTheLastRun() {
        RainTarget x = new RainTarget();
        for (int u = 0; u <= 6; u++) {
            wins(x, u, 3, 4 * u, 1, 1);
            wins(x, u, 3, 4 * u + 1, 0, 1);
        }
        wins(x, 6, 3, 999, 0, 1);
    }

    private static void winsOfTheMost() {
        RainTarget x = Check.told("overs 12;men 10;mood 3 36 0 1 0 0 9", 3);
        for (int u = 1; u <= 12; u++) {
            long below = 1;
            for (int i = 0; i < u; i++) {
                below *= 10;
            }
            wins(x, u, 1, 36 * u, 1, below);
            wins(x, u, 10, 36 * u, 1, below);
            wins(x, u, 1, 36 * u + 1, 0, 1);
            wins(x, u, 10, 36 * u + 1, 0, 1);
        }
        wins(x, 12, 10, 433, 0, 1);
        wins(x, 12, 10, 998, 0, 1);
        wins(x, 12, 10, 999, 0, 1);
    }

    /** Terms: "Parts are told in lowest terms: above (part 0), below (1)." */
    private static void lowestTerms() {
        RainTarget x = Check.told("overs 12;men 10;mood 0 2 0 5 0 0 5", 3);
        makes(x, 12, 10, 12, 1);
        makes(x, 1, 1, 1, 1);
        wins(x, 12, 10, 24, 1, 4096);
        wins(x, 12, 10, 23, 1, 4096);
        wins(x, 12, 10, 22, 13, 4096);
        wins(x, 12, 10, 2, 4095, 4096);
        wins(x, 12, 10, 1, 4095, 4096);
    }

    /** 9: "NONE: u or v is 0, or n is 0."; what is OUTSIDE is refused ahead of that. */
    private static void bestIsNone() {
        for (String text : new String[] {LEAST, MOST}) {
            RainTarget x = Check.told(text, 2);
            int overs = x.count(0);
            int men = x.count(1);
            for (int n : new int[] {NONE, 0, 1, 999}) {
                Check.due("best without overs, n " + n, x.best(0, men, n), NONE);
                Check.due("best without men, n " + n, x.best(overs, 0, n), NONE);
                Check.due("best without both, n " + n, x.best(0, 0, n), NONE);
                Check.due("best with one, n " + n, x.best(1, 1, n), n == 0 ? NONE : 0);
                Check.due("best with all, n " + n, x.best(overs, men, n), n == 0 ? NONE : 0);
                Check.due("best with more overs, n " + n, x.best(overs + 1, 0, n), OUTSIDE);
                Check.due("best with more men, n " + n, x.best(0, men + 1, n), OUTSIDE);
            }
            Check.due("best without overs, n -2", x.best(0, men, -2), OUTSIDE);
            Check.due("best without men, n 1000", x.best(overs, 0, 1000), OUTSIDE);
        }
    }

    /** 9: "The least MOOD with which MAKES .. or WINS is as much". */
    private static void bestOfEqualMoods() {
        RainTarget x = Check.told("mood 0 3 0 10;mood 1 4 0 10;mood 2 4 0 10;mood 3 5 1 10", 4);
        Check.due("one over: 5", x.best(1, 1, NONE), 3);
        Check.due("two overs, one man: 8 or 5", x.best(2, 1, NONE), 1);
        Check.due("for 3", x.best(1, 1, 3), 0);
        Check.due("for 4", x.best(1, 1, 4), 1);
        Check.due("for 5", x.best(1, 1, 5), 3);
        Check.due("for 6 there is no chance", x.best(1, 1, 6), 0);
        Check.due("for 9 in two: 4 and 5", x.best(2, 1, 9), 1);
        Check.due("for 10 in two there is no chance with one man", x.best(2, 1, 10), 0);
        Check.due("for 10 in two with two men", x.best(2, 2, 10), 3);
    }

    private static void bestLooksAtToldMoodsAlone() {
        RainTarget x = Check.told("mood 0 0 3 10", 1);
        Check.due("MAKES is 0", x.best(6, 3, NONE), 0);
        Check.due("WINS is 0", x.best(6, 3, 1), 0);
        Check.tell(x, "mood 3 0 0 10", 1);
        Check.due("MAKES is 0 with both", x.best(6, 3, NONE), 0);
        Check.tell(x, "mood 3 1 0 10", 1);
        Check.due("MAKES is 1 with the last mood", x.best(6, 3, NONE), 3);
        Check.due("WINS is 1 with the last mood", x.best(6, 3, 6), 3);
        Check.due("WINS is 0 with all", x.best(6, 3, 7), 0);
    }

    /** 10: from 0 for none to 1000 for all. */
    private static void spendOfNoneAndAll() {
        for (String text : new String[] {LEAST, MOST}) {
            RainTarget x = Check.told(text, 2);
            int overs = x.count(0);
            int men = x.count(1);
            Check.due("spend of all", x.spend(overs, men), 1000);
            Check.due("spend without overs", x.spend(0, men), 0);
            Check.due("spend without men", x.spend(overs, 0), 0);
            Check.due("spend without both", x.spend(0, 0), 0);
            Check.due("spend of one over, cut", x.spend(1, 1), 1000 / overs);
        }
        RainTarget x = Check.told("overs 12;men 10;mood 0 36 0 10", 3);
        Check.due("11 of 12, cut", x.spend(11, 10), 916);
        RainTarget y = Check.told("overs 12;men 10;mood 0 36 0 9 0 0 1", 3);
        Check.due("11 of 12 by large parts, cut", y.spend(11, 10), 916);
    }

    /** Terms: "(0, if that is 0)": MAKES of all OVERS and MEN. */
    private static void spendOfNothing() {
        RainTarget x = Check.told("mood 0 0 0 10", 1);
        for (int u = 0; u <= 6; u++) {
            for (int v = 0; v <= 3; v++) {
                Check.due("spend(" + u + ", " + v + ") of nothing", x.spend(u, v), 0);
            }
        }
        Check.due("spend of nothing is OUTSIDE all the same", x.spend(7, 3), OUTSIDE);
        Check.tell(x, "mood 3 1 0 1 0 0 9", 1);
        Check.due("spend of a little", x.spend(6, 3), 1000);
    }
}
