/** Edges of promises 20 to 26 and of the terms by which rules are judged, sentence by sentence. */
public final class JudgedEdgesTest {
    private static final int NONE = RainTarget.NONE;
    private static final int UNKNOWN = RainTarget.UNKNOWN;
    private static final int OUTSIDE = RainTarget.OUTSIDE;
    private static final int FULL = RainTarget.FULL;
    private static final int RATE = 0;
    private static final int WORST = 1;
    private static final int CHANCE = 4;
    private static final int SAID = 5;
    private static final String COIN = "overs 4;men 2;mood 0 10 0 5 0 1 5";

    public static void main(String[] args) {
        unknownRules();
        oddIsMoreThanThirtySix();
        oddLeavesOneOver();
        oddByGreatestLeft();
        oddByLeastTaken();
        oddOfTwelve();
        sheetOutside();
        sheetOfNoneAndAll();
        cloudedByTenths();
        cloudedLeavesOneOver();
        cloudedIsCut();
        simpleOutside();
        simpleWithoutRain();
        simpleFromNoneToMost();
        simpleOfSeveral();
        matchOutside();
        matchFull();
        matchesStay();
        triedOfNone();
        triedByOversAndMen();
        triedIsCut();
        triedOfAll();
        countOutside();
        countOfLeastAndMost();
        lastCall();
        Check.end();
    }

    private static RainTarget batted(String text, int lines, int first) {
        RainTarget x = Check.told(text, lines);
        for (int left = first; left > 0; left -= 36) {
            x.bat(Math.min(36, left));
        }
        Check.due("FIRST", x.count(3), first);
        return x;
    }

    /** 20 to 22: "UNKNOWN": RULES are 0 .. 5; ahead of OUTSIDE. */
    private static void unknownRules() {
        Edge.boundsEverywhere("odd", (x, rule) -> x.odd(rule), 0, 5, UNKNOWN);
        Edge.boundsEverywhere("sheet", (x, rule) -> x.sheet(rule, 0), 0, 5, UNKNOWN);
        Edge.boundsEverywhere("clouded", (x, rule) -> x.clouded(rule), 0, 5, UNKNOWN);
        Edge.refusedEverywhere("sheet(6, 13)", x -> x.sheet(6, 13), UNKNOWN);
        Edge.refusedEverywhere("sheet(-1, -1)", x -> x.sheet(-1, -1), UNKNOWN);
    }

    private static void odd(String text, int lines, int rule, int first, int due) {
        RainTarget x = batted(text, lines, first);
        Check.due("odd(" + rule + ") of " + first + " by " + text, x.odd(rule), due);
    }

    /** Terms, ODD: "more than 36 RUNS for each OVER .., though it did not ahead of that". */
    private static void oddIsMoreThanThirtySix() {
        String said = "overs 2;line 0";
        odd(said, 2, SAID, 0, NONE);
        odd(said, 2, SAID, 35, NONE);
        odd(said, 2, SAID, 36, 201);
        odd(said, 2, SAID, 71, 201);
        odd(said, 2, SAID, 72, NONE);
        String less = "overs 2;line 5";
        odd(less, 2, SAID, 40, NONE);
        odd(less, 2, SAID, 41, 201);
    }

    /** Terms, ODD: "that is left then (one at least)": the last OVER is not taken. */
    private static void oddLeavesOneOver() {
        for (int first : new int[] {0, 1, 35, 36}) {
            for (int rule = 0; rule < 6; rule++) {
                odd("overs 1;line 0", 2, rule, first, NONE);
            }
        }
        odd("overs 3;line 0", 2, SAID, 36, 302);
        odd("overs 3;line 0", 2, SAID, 35, NONE);
    }

    /** Terms, ODD: "the first of these (by u from OVERS down": RATE takes less, the fewer are taken. */
    private static void oddByGreatestLeft() {
        odd("overs 6", 1, RATE, 43, NONE);
        odd("overs 6", 1, RATE, 44, 201);
        odd("overs 6", 1, RATE, 53, 201);
        odd("overs 6", 1, RATE, 54, 302);
        odd("overs 6", 1, RATE, 216, NONE);
        odd("overs 6;line 0", 2, SAID, 215, 601);
        odd("overs 6;line 0", 2, SAID, 216, NONE);
    }

    /** Terms, ODD: "then by the least k)". */
    private static void oddByLeastTaken() {
        int[] first = {35, 36, 71, 72, 107, 108, 143, 144};
        int[] due = {NONE, 403, 403, 402, 402, 401, 401, NONE};
        for (int i = 0; i < first.length; i++) {
            odd("overs 4;line 0", 2, SAID, first[i], due[i]);
        }
    }

    /** 20: "100 times u, and k": both of two digits. */
    private static void oddOfTwelve() {
        odd("overs 12;line 0", 2, WORST, 35, NONE);
        odd("overs 12;line 0", 2, WORST, 36, 1211);
        odd("overs 12;line 0", 2, SAID, 36, 1211);
        odd("overs 12;line 0", 2, SAID, 431, 1201);
        odd("overs 12;line 35", 2, SAID, 431, 1201);
        odd("overs 12;line 36", 2, SAID, 431, NONE);
        odd("overs 12;line 0", 2, SAID, 432, NONE);
        odd("overs 12;mood 0 36 0 10", 2, CHANCE, 431, NONE);
        odd("overs 12", 1, CHANCE, 48, 1211);
        odd("overs 12", 1, CHANCE, 47, 1110);
        odd("overs 12", 1, CHANCE, 36, 908);
        odd("overs 12", 1, CHANCE, 35, NONE);
    }

    /** 21: "OUTSIDE: k (0 .. OVERS)". */
    private static void sheetOutside() {
        for (int rule = 0; rule < 6; rule++) {
            int asked = rule;
            for (int overs = 1; overs <= 12; overs++) {
                String text = "overs " + overs;
                Edge.bounds("sheet " + rule + " of " + text, () -> Check.told(text, 1),
                    (x, k) -> x.sheet(asked, k), 0, overs, OUTSIDE);
            }
            Edge.bounds("sheet, none being left", Edge::full, (x, k) -> x.sheet(asked, k), 0, 12, OUTSIDE);
            Edge.bounds("sheet, few being left", Edge::midway, (x, k) -> x.sheet(asked, k), 0, 8, OUTSIDE);
        }
    }

    /** Terms, SHEET: "the TARGET, if k OVERS are taken at the begin": none, all but one, all. */
    private static void sheetOfNoneAndAll() {
        RainTarget x = batted("overs 12;line 36", 2, 431);
        int[] most = {36, 37, 36, 36, 432, 36};
        for (int rule = 0; rule < 6; rule++) {
            Check.due("sheet of none, rule " + rule, x.sheet(rule, 0), 432);
            Check.due("sheet of all but one, rule " + rule, x.sheet(rule, 11), most[rule]);
            Check.due("sheet of all, rule " + rule, x.sheet(rule, 12), rule == CHANCE ? 432 : 1);
        }
        RainTarget one = batted("overs 1;line 3", 2, 3);
        for (int rule = 0; rule < 6; rule++) {
            Check.due("sheet of none of one, rule " + rule, one.sheet(rule, 0), 4);
            Check.due("sheet of one of one, rule " + rule, one.sheet(rule, 1), 1);
        }
        RainTarget none = new RainTarget();
        for (int rule = 0; rule < 6; rule++) {
            for (int k = 0; k <= 6; k++) {
                Check.due("sheet of nothing, rule " + rule + ", k " + k, none.sheet(rule, k), 1);
            }
        }
    }

    private static void clouded(String cloud, int rule, int due) {
        RainTarget x = batted(COIN + ";" + cloud, 4, 19);
        Check.due(cloud + ", rule " + rule, x.clouded(rule), due);
    }

    /** Terms, CLOUDED: "with so many tenths .., else none": 20 in four is 1/2, in two 1/4. */
    private static void cloudedByTenths() {
        for (int tenths = 0; tenths <= 10; tenths++) {
            clouded("cloud " + tenths + " 2", WORST, 500000 - 25000 * tenths);
            clouded("cloud " + tenths + " 0", WORST, 500000);
        }
    }

    /** Terms, CLOUDED: "(all but one at most)": by RATE 5 in one over is 1/2, 1 in none can't be. */
    private static void cloudedLeavesOneOver() {
        int[] rate = {500000, 500000, 750000, 500000, 500000, 500000};
        int[] worst = {500000, 500000, 250000, 0, 0, 0};
        for (int overs = 0; overs <= 5; overs++) {
            clouded("cloud 10 " + overs, WORST, worst[overs]);
            clouded("cloud 10 " + overs, RATE, rate[overs]);
        }
        clouded("cloud 10 12", RATE, 500000);
        clouded("cloud 10 12", WORST, 0);
        RainTarget one = batted("overs 1;cloud 10 12", 2, 3);
        for (int rule = 0; rule < 6; rule++) {
            Check.due("the only over stays, rule " + rule, one.clouded(rule), 1000000);
        }
        RainTarget two = batted("overs 2;line 0;cloud 10 12", 3, 3);
        Check.due("one of two stays: 4 in one", two.clouded(SAID), 1000000);
        RainTarget more = batted("overs 2;line 0;cloud 10 12", 3, 4);
        Check.due("one of two stays: 5 in one", more.clouded(SAID), 0);
        RainTarget most = batted("overs 12;line 0;cloud 10 12", 3, 4);
        Check.due("one of twelve stays: 5 in one", most.clouded(SAID), 0);
        Check.tell(most, "cloud 10 10", 1);
        Check.due("two of twelve stay: 5 in two", most.clouded(SAID), 1000000);
    }

    /** Terms: "all that is told in millionths: times 1000000, cut": both parts together. */
    private static void cloudedIsCut() {
        RainTarget x = batted("overs 6;line 0;mood 0 1 0 1 0 0 9;cloud 1 1", 4, 5);
        Check.due("9 tenths of a millionth", x.clouded(SAID), 0);
        Check.tell(x, "cloud 0 1", 1);
        Check.due("a millionth", x.clouded(SAID), 1);
        RainTarget y = batted("overs 12;line 0;mood 0 1 0 9 0 0 1;cloud 5 1", 4, 0);
        Check.due("all but less than a millionth", y.clouded(SAID), 999999);
        RainTarget sure = batted("overs 12;line 0;mood 0 36 0 10;cloud 5 1", 4, 395);
        Check.due("sure with and without", sure.clouded(SAID), 1000000);
        RainTarget half = batted("overs 12;line 0;mood 0 36 0 10;cloud 5 1", 4, 396);
        Check.due("397 in eleven can't be", half.clouded(SAID), 500000);
    }

    /** 23: "the LINE (what 0), by how much it differs (1). OUTSIDE." */
    private static void simpleOutside() {
        Edge.boundsEverywhere("simple", (x, what) -> x.simple(what), 0, 1, OUTSIDE);
    }

    private static void simple(String text, int lines, int first, int line, int differs) {
        RainTarget x = batted(text, lines, first);
        int told = x.count(9);
        Check.due("simple(0) of " + first + " by " + text, x.simple(0), line);
        Check.due("simple(1) of " + first + " by " + text, x.simple(1), differs);
        Check.due("LINE behind simple", x.count(9), told);
    }

    /** Terms, SIMPLE: "over all k (1 .. OVERS less 1)": with one OVER there is none. */
    private static void simpleWithoutRain() {
        simple("overs 1", 1, 0, 0, 0);
        simple("overs 1", 1, 36, 0, 0);
        simple("overs 2", 1, 0, 0, 0);
        simple("overs 2", 1, 7, 4, 0);
        simple("overs 3", 1, 11, 4, 0);
        simple("overs 12", 1, 0, 0, 0);
    }

    /** Terms, SIMPLE: "the LINE (0 .. 99)": CHANCE never takes more than 36 for an OVER, nor less than nothing. */
    private static void simpleFromNoneToMost() {
        simple("overs 12;line 99", 2, 48, 0, 0);
        simple("overs 12;line 99", 2, 432, 0, 0);
        simple("overs 12;mood 0 36 0 10;line 99", 3, 431, 36, 0);
        simple("overs 12;mood 0 35 0 10;line 0", 3, 419, 35, 0);
        simple("overs 2;mood 0 36 0 10", 2, 71, 36, 0);
    }

    /** Terms, SIMPLE: "of several the least": SAID is 1 at least, so greater lines say the same. */
    private static void simpleOfSeveral() {
        simple("overs 2;mood 0 5 0 5 0 0 5", 2, 4, 4, 0);
        simple("overs 2;mood 0 1 0 5 0 0 5", 2, 0, 0, 0);
        simple("overs 3;mood 0 2 0 10", 2, 4, 1, 1);
        simple("overs 3;mood 0 1 0 10", 2, 2, 1, 0);
        simple("overs 3;mood 0 5 0 1 0 0 9", 2, 9, 3, 3);
    }

    /** 24: "OUTSIDE: u (0 .. 12), v (0 .. 10), runs (0 .. 999)", ahead of FULL. */
    private static void matchOutside() {
        Edge.boundsEverywhere("match u", (x, u) -> x.match(u, 0, 0), 0, 12, OUTSIDE);
        Edge.boundsEverywhere("match v", (x, v) -> x.match(0, v, 0), 0, 10, OUTSIDE);
        Edge.boundsEverywhere("match runs", (x, runs) -> x.match(0, 0, runs), 0, 999, OUTSIDE);
        Edge.refusedEverywhere("match of all wrong", x -> x.match(13, 11, 1000), OUTSIDE);
        RainTarget x = Check.told("overs 1;men 1", 2);
        Check.due("more overs and men than there are can be told", x.match(12, 10, 999), 1);
        Check.due("and none", x.match(0, 0, 0), 2);
    }

    private static RainTarget matched(int matches) {
        RainTarget x = new RainTarget();
        for (int i = 1; i <= matches; i++) {
            Check.due("match " + i, x.match(1, 1, i), i);
            Check.due("count(8) behind " + i, x.count(8), i);
        }
        return x;
    }

    /** Terms: "MATCHES are 24 at most"; 24: "FULL". */
    private static void matchFull() {
        Check.due("match 24", matched(23).match(12, 10, 999), 24);
        Edge.refused("match 25", () -> matched(24), x -> x.match(0, 0, 0), FULL);
        Edge.refused("match 25", () -> matched(24), x -> x.match(12, 10, 999), FULL);
        Edge.refused("match 25 of 13 overs", () -> matched(24), x -> x.match(13, 10, 999), OUTSIDE);
        Edge.refused("match where all is full", Edge::full, x -> x.match(1, 1, 1), FULL);
        RainTarget x = matched(24);
        Check.due("1 .. 24 less 4 each: 6 and 210", x.tried(), 216);
        Check.due("match 25", x.match(1, 1, 999), FULL);
        Check.due("tried as it was", x.tried(), 216);
    }

    private static void matchesStay() {
        RainTarget x = matched(24);
        x.anew();
        Check.tell(x, "overs 1;men 1;mood 0 4 0 10;line 0", 4);
        Check.due("matches stay", x.count(8), 24);
        Check.due("match 25 is still refused", x.match(1, 1, 1), FULL);
        Check.due("tried stays", x.tried(), 216);
    }

    /** 25: no MATCHES; MATCHES of nothing. */
    private static void triedOfNone() {
        Check.due("tried of none", new RainTarget().tried(), 0);
        RainTarget x = new RainTarget();
        x.match(0, 0, 0);
        x.match(6, 0, 0);
        x.match(0, 3, 0);
        Check.due("tried of nothing made", x.tried(), 0);
        x.match(0, 0, 999);
        Check.due("tried of what can't be made", x.tried(), 999);
        x.match(6, 3, 24);
        Check.due("tried of what is just made", x.tried(), 999);
        x.match(6, 3, 25);
        x.match(6, 3, 23);
        Check.due("one above and one below", x.tried(), 1001);
    }

    /** 25: "(MATCHES with more OVERS or MEN than there are do not count)". */
    private static void triedByOversAndMen() {
        int[][] matches = {{6, 3}, {7, 3}, {6, 4}, {7, 4}, {12, 10}, {5, 2}};
        boolean[] counts = {true, false, false, false, false, true};
        for (int i = 0; i < matches.length; i++) {
            RainTarget x = new RainTarget();
            x.match(matches[i][0], matches[i][1], 999);
            int made = 4 * matches[i][0];
            Check.due("tried of match " + i, x.tried(), counts[i] ? 999 - made : 0);
            Check.tell(x, "overs 12;men 10", 2);
            Check.due("tried of match " + i + " with all", x.tried(), 999 - made);
            Check.tell(x, "overs 1;men 1", 2);
            Check.due("tried of match " + i + " with one", x.tried(), 0);
            Check.due("the match stays", x.count(8), 1);
        }
        RainTarget left = new RainTarget();
        left.match(6, 3, 999);
        left.rain(6);
        Check.due("what is left does not matter", left.tried(), 975);
    }

    /** 25, Terms: "by how much MAKES, cut, differs". */
    private static void triedIsCut() {
        RainTarget x = Check.told("mood 0 1 0 9 0 0 1", 1);
        x.match(1, 1, 0);
        Check.due("9 tenths are none", x.tried(), 0);
        x.match(1, 1, 1);
        Check.due("9 tenths are less than 1", x.tried(), 1);
        x.match(6, 3, 5);
        Check.due("5.4 are 5", x.tried(), 1);
        x.match(6, 3, 6);
        Check.due("5.4 are no 6", x.tried(), 2);
    }

    private static void triedOfAll() {
        RainTarget x = Check.told("overs 12;men 10;mood 0 0 0 10", 3);
        for (int i = 1; i <= 24; i++) {
            Check.due("match " + i, x.match(12, 10, 999), i);
        }
        Check.due("24 times 999", x.tried(), 23976);
        Check.tell(x, "mood 0 36 0 10", 1);
        Check.due("24 times 999 less 432", x.tried(), 13608);
    }

    /** 26: "0 OVERS .. 9 LINE. OUTSIDE." */
    private static void countOutside() {
        Edge.boundsEverywhere("count", (x, what) -> x.count(what), 0, 9, OUTSIDE);
    }

    private static void counts(String when, RainTarget x, int... due) {
        for (int what = 0; what < 10; what++) {
            Check.due("count(" + what + ") " + when, x.count(what), due[what]);
        }
    }

    private static void countOfLeastAndMost() {
        counts("of a new object", new RainTarget(), 6, 3, 0, 0, 0, 6, 3, 0, 0, 5);
        counts("of the least", Check.told("overs 1;men 1;line 0", 3), 1, 1, 0, 0, 0, 1, 1, 0, 0, 0);
        counts("of the most", Check.told("overs 12;men 10;line 99", 3), 12, 10, 0, 0, 0, 12, 10, 0, 0, 99);
        counts("where all is full", Edge.full(), 12, 10, 200, 432, 12, 0, 7, 216, 24, 99);
        counts("midway", Edge.midway(), 8, 4, 12, 46, 3, 4, 3, 16, 2, 4);
        counts("without men", Edge.withoutMen(), 3, 2, 16, 37, 1, 2, 0, 36, 1, 5);
        RainTarget x = Check.told("overs 12;men 10", 2);
        for (int i = 0; i < 12; i++) {
            x.play(36, 0);
        }
        counts("behind twelve overs", x, 12, 10, 0, 0, 12, 0, 10, 432, 0, 5);
    }

    /** "An object is used for at most 512 calls": the last of them is answered as the first. */
    private static void lastCall() {
        RainTarget x = new RainTarget();
        Check.due("call 1", x.rain(1), 5);
        for (int call = 2; call <= 511; call += 2) {
            Check.due("call " + call, x.odd(call / 2 % 6), NONE);
            Check.due("call " + (call + 1), x.target(call / 2 % 6), 1);
        }
        Check.due("call 512", x.play(36, 0), 36);
    }
}
