/** Edges of promises 11 to 19 and of the terms of both sides, sentence by sentence. */
public final class SidesEdgesTest {
    private static final int UNKNOWN = RainTarget.UNKNOWN;
    private static final int OUTSIDE = RainTarget.OUTSIDE;
    private static final int NOT = RainTarget.NOT;
    private static final int FULL = RainTarget.FULL;
    private static final int RATE = 0;
    private static final int WORST = 1;
    private static final int TABLE = 2;
    private static final int BENT = 3;
    private static final int CHANCE = 4;
    private static final int SAID = 5;
    private static final String COIN = "overs 4;men 2;mood 0 10 0 5 0 1 5";

    public static void main(String[] args) {
        batOutside();
        batFull();
        anewOfNoneAndAll();
        playOutside();
        playWithoutOvers();
        playWithoutMen();
        playOutsBeyondMen();
        rainOutside();
        rainTakesWhatIsLeft();
        rainWithoutMen();
        eventUnknown();
        eventOutside();
        eventsOfTwelve();
        unknownRules();
        targetWithoutRain();
        targetWithAllOversTaken();
        rateIsCut();
        worstTakesLeast();
        tableOfNothing();
        tableOfManyRains();
        bentFromParToBend();
        bentOfNothing();
        chanceIsKept();
        chanceIsOneAtLeast();
        chanceIsNeverAbove();
        chanceByEveryRun();
        saidIsOneAtLeast();
        oddsOfWhatIsMade();
        oddsWithoutOversOrMen();
        oddsAreCut();
        gainWithoutRain();
        gainFromNoneToTwice();
        gainOfLastRain();
        wonAtTheTarget();
        lostWithoutOversOrMen();
        Check.end();
    }

    private static void counts(String when, RainTarget x, int... due) {
        for (int what = 0; what < due.length; what++) {
            Check.due("count(" + what + ") " + when, x.count(what), due[what]);
        }
    }

    private static void targets(String when, RainTarget x, int... due) {
        for (int rule = 0; rule < 6; rule++) {
            Check.due("target(" + rule + ") " + when, x.target(rule), due[rule]);
        }
    }

    private static RainTarget batted(String text, int lines, int... runs) {
        RainTarget x = Check.told(text, lines);
        Check.bat(x, runs);
        return x;
    }

    /** 11: "OUTSIDE: RUNS" (0 .. 36), ahead of FULL. */
    private static void batOutside() {
        Edge.boundsEverywhere("bat", (x, runs) -> x.bat(runs), 0, 36, OUTSIDE);
        RainTarget x = new RainTarget();
        Check.bat(x, 0, 36);
        Check.due("FIRST of both ends", x.count(3), 36);
    }

    private static RainTarget allBatted(int overs) {
        RainTarget x = Check.told("overs " + overs, 1);
        for (int i = 1; i <= overs; i++) {
            Check.due("bat " + i + " of " + overs, x.bat(36), i);
        }
        return x;
    }

    /** 11: "FULL: all OVERS." */
    private static void batFull() {
        for (int overs = 1; overs <= 12; overs++) {
            int all = overs;
            for (int runs : new int[] {0, 36}) {
                Edge.refused("bat beyond " + overs, () -> allBatted(all), x -> x.bat(runs), FULL);
            }
            Edge.refused("bat(37) beyond " + overs, () -> allBatted(all), x -> x.bat(37), OUTSIDE);
            Edge.refused("bat(-1) beyond " + overs, () -> allBatted(all), x -> x.bat(-1), OUTSIDE);
            Check.due("FIRST of " + overs, allBatted(all).count(3), 36 * overs);
        }
        RainTarget x = allBatted(3);
        Check.due("the second side takes none of them", x.rain(3), 0);
        Check.due("anew", x.anew(), 108);
        Check.due("there is room again", x.bat(1), 1);
    }

    /** 12: "THE FIRST has no OVERS, THE SECOND begins anew: FIRST that was." */
    private static void anewOfNoneAndAll() {
        RainTarget none = new RainTarget();
        Check.due("anew of none", none.anew(), 0);
        counts("behind anew of none", none, 6, 3, 0, 0, 0, 6, 3, 0, 0, 5);
        RainTarget zero = new RainTarget();
        Check.bat(zero, 0, 0, 0, 0, 0, 0);
        Check.due("anew of noughts", zero.anew(), 0);
        Check.due("bat behind it", zero.bat(0), 1);
        RainTarget all = Edge.full();
        Check.due("anew of all", all.anew(), 432);
        counts("behind anew of all", all, 12, 10, 200, 0, 0, 12, 10, 0, 24, 99);
        Check.due("events are gone", all.event(0, 0), UNKNOWN);
        Check.due("gain behind it", all.gain(0), NOT);
        Check.due("bat behind it", all.bat(1), 1);
        Check.due("the overs that were are forgotten", all.sheet(WORST, 11), 2);
        Check.due("anew again", all.anew(), 1);
        Check.due("and again", all.anew(), 0);
        RainTarget out = Edge.withoutMen();
        Check.due("anew without men", out.anew(), 37);
        Check.due("men are back", out.count(6), 2);
        Check.due("play behind it", out.play(1, 0), 1);
    }

    /** 13: "OUTSIDE: runs, outs (0 .. 3)", ahead of NOT. */
    private static void playOutside() {
        Edge.boundsEverywhere("play runs", (x, runs) -> x.play(runs, 0), 0, 36, OUTSIDE);
        Edge.boundsEverywhere("play outs", (x, outs) -> x.play(0, outs), 0, 3, OUTSIDE);
        Edge.refusedEverywhere("play of both wrong", x -> x.play(37, 4), OUTSIDE);
        RainTarget x = new RainTarget();
        Check.due("play(36, 3)", x.play(36, 3), 36);
        counts("behind play(36, 3)", x, 6, 3, 0, 0, 1, 5, 0, 36, 0, 5);
        RainTarget y = new RainTarget();
        Check.due("play(0, 0)", y.play(0, 0), 0);
        counts("behind play(0, 0)", y, 6, 3, 0, 0, 1, 5, 3, 0, 0, 5);
    }

    private static RainTarget allPlayed(int overs) {
        RainTarget x = Check.told("overs " + overs, 1);
        for (int i = 1; i <= overs; i++) {
            Check.due("play " + i + " of " + overs, x.play(36, 0), 36 * i);
        }
        return x;
    }

    /** 13: "NOT: no OVERS .. are left": played or taken. */
    private static void playWithoutOvers() {
        for (int overs : new int[] {1, 2, 11, 12}) {
            Edge.refused("play beyond " + overs, () -> allPlayed(overs), x -> x.play(0, 0), NOT);
            Edge.refused("play(37, 0) beyond " + overs, () -> allPlayed(overs), x -> x.play(37, 0), OUTSIDE);
        }
        Edge.refused("play of the last, taken", () -> rained(6), x -> x.play(36, 3), NOT);
        Check.due("play of the last, left", rained(5).play(36, 3), 36);
        Edge.refused("play where all is full", Edge::full, x -> x.play(1, 0), NOT);
    }

    private static RainTarget rained(int k) {
        RainTarget x = new RainTarget();
        Check.due("rain(" + k + ")", x.rain(k), 6 - k);
        return x;
    }

    /** 13: "NOT: no .. MEN are left". */
    private static void playWithoutMen() {
        Edge.refused("play without men", Edge::withoutMen, x -> x.play(0, 0), NOT);
        RainTarget x = Check.told("overs 12;men 10", 2);
        int[] left = {7, 4, 1, 0};
        for (int i = 0; i < 4; i++) {
            Check.due("play " + i, x.play(1, 3), i + 1);
            Check.due("men left", x.count(6), left[i]);
        }
        Check.due("play without men", x.play(1, 0), NOT);
        Check.due("overs left", x.count(5), 8);
        Check.due("runs", x.count(7), 4);
    }

    /** 13: "(OUTS beyond its MEN: none are left.)" */
    private static void playOutsBeyondMen() {
        for (int men = 1; men <= 10; men++) {
            for (int outs = 0; outs <= 3; outs++) {
                RainTarget x = Check.told("men " + men, 1);
                Check.due("play(7, " + outs + ")", x.play(7, outs), 7);
                Check.due(outs + " outs of " + men, x.count(6), Math.max(0, men - outs));
                Check.due("its outs are told", x.event(0, 2), outs);
                Check.due("it goes on", x.play(1, 0), outs < men ? 8 : NOT);
            }
        }
    }

    /** 14: "OUTSIDE: k (1 .. 12)", ahead of NOT. */
    private static void rainOutside() {
        Edge.boundsEverywhere("rain", (x, k) -> x.rain(k), 1, 12, OUTSIDE);
        Check.due("rain(12) of twelve", Check.told("overs 12", 1).rain(12), 0);
        Check.due("rain(1) of one", Check.told("overs 1", 1).rain(1), 0);
    }

    /** 14: "NOT: there are not so many": the last that is left can be taken. */
    private static void rainTakesWhatIsLeft() {
        for (int overs = 1; overs <= 12; overs++) {
            String text = "overs " + overs;
            Check.due("rain of all " + overs, Check.told(text, 1).rain(overs), 0);
            for (int k = overs + 1; k <= 12; k++) {
                int more = k;
                Edge.refused("rain(" + k + ") of " + overs, () -> Check.told(text, 1), x -> x.rain(more), NOT);
            }
        }
        Edge.refused("rain of none", () -> rained(6), x -> x.rain(1), NOT);
        Edge.refused("rain of two, one being left", () -> rained(5), x -> x.rain(2), NOT);
        Check.due("rain of one, one being left", rained(5).rain(1), 0);
        Edge.refused("rain of five, four being left", Edge::midway, x -> x.rain(5), NOT);
        Check.due("rain of what is left behind play and rain", Edge.midway().rain(4), 0);
        Edge.refused("rain where all is full", Edge::full, x -> x.rain(1), NOT);
        Edge.refused("rain(13) where all is full", Edge::full, x -> x.rain(13), OUTSIDE);
    }

    private static void rainWithoutMen() {
        RainTarget x = Edge.withoutMen();
        Check.due("rain(3) without men", x.rain(3), NOT);
        Check.due("rain(2) without men", x.rain(2), 0);
        Check.due("events", x.count(4), 2);
        Check.due("rain(1) without both", x.rain(1), NOT);
    }

    /** 15: "UNKNOWN": no such event; ahead of OUTSIDE. */
    private static void eventUnknown() {
        Edge.bounds("event of three", Edge::midway, (x, i) -> x.event(i, 0), 0, 2, UNKNOWN);
        Edge.bounds("event of twelve", Edge::full, (x, i) -> x.event(i, 1), 0, 11, UNKNOWN);
        Edge.bounds("event of one", Edge::withoutMen, (x, i) -> x.event(i, 2), 0, 0, UNKNOWN);
        for (int i : new int[] {-1, 0, 1, 23, 24, Integer.MIN_VALUE, Integer.MAX_VALUE}) {
            Edge.refused("event " + i + " of none", RainTarget::new, x -> x.event(i, 0), UNKNOWN);
            Edge.refused("event " + i + " of none, what 3", RainTarget::new, x -> x.event(i, 3), UNKNOWN);
        }
        Edge.refused("event(12, 3)", Edge::full, x -> x.event(12, 3), UNKNOWN);
    }

    /** 15: what 0, 1, 2. */
    private static void eventOutside() {
        Edge.bounds("event what of an over", Edge::midway, (x, what) -> x.event(0, what), 0, 2, OUTSIDE);
        Edge.bounds("event what of rain", Edge::midway, (x, what) -> x.event(1, what), 0, 2, OUTSIDE);
        Edge.bounds("event what of the last", Edge::full, (x, what) -> x.event(11, what), 0, 2, OUTSIDE);
    }

    /** Each event takes an over, so twelve are the most that can be. */
    private static void eventsOfTwelve() {
        RainTarget x = Check.told("overs 12;men 10", 2);
        for (int i = 0; i < 12; i++) {
            Check.due("events", x.count(4), i);
            Check.due("event " + i + " is not yet", x.event(i, 0), UNKNOWN);
            if (i % 2 == 0) {
                x.play(36 - i, i % 3);
            } else {
                x.rain(1);
            }
        }
        for (int i = 0; i < 12; i++) {
            boolean rain = i % 2 == 1;
            Check.due("event(" + i + ", 0)", x.event(i, 0), rain ? 1 : 0);
            Check.due("event(" + i + ", 1)", x.event(i, 1), rain ? 1 : 36 - i);
            Check.due("event(" + i + ", 2)", x.event(i, 2), rain ? 0 : i % 3);
        }
        RainTarget one = Check.told("overs 12", 1);
        one.rain(12);
        Check.due("k of the greatest rain", one.event(0, 1), 12);
        RainTarget most = new RainTarget();
        most.play(36, 3);
        Check.due("RUNS of the greatest over", most.event(0, 1), 36);
        Check.due("OUTS of the greatest over", most.event(0, 2), 3);
    }

    /** 16 to 19: "UNKNOWN": RULES are 0 .. 5; ahead of NOT. */
    private static void unknownRules() {
        Edge.boundsEverywhere("target", (x, rule) -> x.target(rule), 0, 5, UNKNOWN);
        Edge.boundsEverywhere("odds", (x, rule) -> x.odds(rule), 0, 5, UNKNOWN);
        Edge.boundsEverywhere("gain", (x, rule) -> x.gain(rule), 0, 5, UNKNOWN);
        Edge.boundsEverywhere("won", (x, rule) -> x.won(rule), 0, 5, UNKNOWN);
    }

    /** Terms: "(without RAIN: FIRST and 1)", from no run to the most. */
    private static void targetWithoutRain() {
        targets("of nothing", new RainTarget(), 1, 1, 1, 1, 1, 1);
        RainTarget one = batted("overs 1", 1, 1);
        targets("of one", one, 2, 2, 2, 2, 2, 2);
        RainTarget all = allBatted(12);
        targets("of all", all, 433, 433, 433, 433, 433, 433);
        all.play(36, 3);
        targets("of all behind play", all, 433, 433, 433, 433, 433, 433);
    }

    /** Terms: "1 at least": no OVER is left by RAIN. */
    private static void targetWithAllOversTaken() {
        RainTarget x = batted("line 0", 1, 23);
        x.rain(6);
        targets("with all taken", x, 1, 1, 1, 1, 1, 24);
        RainTarget far = batted("line 99", 1, 24);
        far.rain(6);
        targets("with all taken, WINS being 0", far, 1, 1, 1, 1, 25, 1);
        RainTarget none = new RainTarget();
        none.rain(6);
        targets("with all taken of nothing", none, 1, 1, 1, 1, 1, 1);
    }

    /** Terms, RATE: "FIRST times the OVERS that the second has in all by OVERS, cut, and 1". */
    private static void rateIsCut() {
        for (int first = 0; first <= 12; first++) {
            RainTarget x = batted("overs 6", 1, first);
            x.rain(5);
            Check.due(first + " by one of six", x.target(RATE), first / 6 + 1);
        }
        RainTarget all = allBatted(12);
        all.play(0, 0);
        all.rain(10);
        Check.due("432 by two of twelve, one being played", all.target(RATE), 73);
        all.rain(1);
        Check.due("432 by one of twelve", all.target(RATE), 37);
    }

    /** Terms, WORST: "FIRST less its least OVERS, as many as RAIN took"; "those that are not told: 0". */
    private static void worstTakesLeast() {
        int[] due = {53, 53, 53, 53, 48, 37, 1};
        for (int k = 1; k <= 6; k++) {
            RainTarget x = batted("overs 6", 1, 5, 36, 11);
            x.rain(k);
            Check.due("worst of " + k, x.target(WORST), due[k]);
        }
        RainTarget same = batted("overs 3", 1, 7, 7, 7);
        int[] equal = {15, 8, 1};
        for (int k = 0; k < 3; k++) {
            same.rain(1);
            Check.due("worst of equal overs, " + (k + 1), same.target(WORST), equal[k]);
        }
    }

    /** Terms, TABLE with SPEND "(0, if that is 0)": nothing can be lost. */
    private static void tableOfNothing() {
        RainTarget x = batted("mood 0 0 0 10", 1, 20);
        x.rain(6);
        Check.due("all taken, nothing to spend", x.target(TABLE), 21);
        RainTarget out = batted("men 1", 1, 20);
        out.play(0, 3);
        out.rain(5);
        Check.due("no men left, nothing to spend", out.target(TABLE), 21);
    }

    private static void tableOfManyRains() {
        RainTarget x = allBatted(12);
        for (int left = 11; left >= 0; left--) {
            Check.due("rain(1)", x.rain(1), left);
            Check.due("432 by what is left of " + left, x.target(TABLE), 432 * (1000 * left / 12) / 1000 + 1);
        }
    }

    /** Terms, BENT: "h being what FIRST is above PAR, 0 at least, BEND at most". */
    private static void bentFromParToBend() {
        String text = "overs 5;mood 0 36 3 10;par 10 4";
        int[] first = {0, 9, 10, 11, 12, 13, 14, 15, 36};
        int[] left = {1000, 1000, 1000, 800, 600, 400, 200, 200, 200};
        for (int i = 0; i < first.length; i++) {
            RainTarget x = batted(text, 3, first[i]);
            x.rain(4);
            Check.due(first[i] + " by " + left[i], x.target(BENT), first[i] * left[i] / 1000 + 1);
            Check.due(first[i] + " by TABLE", x.target(TABLE), first[i] + 1);
        }
    }

    /** BENT by OVERS alone loses them also where SPEND has nothing to lose. */
    private static void bentOfNothing() {
        RainTarget x = batted("mood 0 0 0 10;par 0 1", 2, 20);
        x.rain(3);
        Check.due("by overs alone, nothing to spend", x.target(BENT), 11);
        RainTarget out = batted("men 1;par 0 1", 2, 20);
        out.play(0, 1);
        out.rain(5);
        Check.due("by overs alone, no men left: 833", out.target(BENT), 20 * (1000 - 833) / 1000 + 1);
    }

    /** Terms, CHANCE: "no less than WINS ahead of it": as much is enough, one run more is too many. */
    private static void chanceIsKept() {
        RainTarget x = batted(COIN, 3, 20);
        Check.due("21 in four: 5/16", x.odds(CHANCE), 312500);
        x.rain(1);
        Check.due("21 in three: 1/8; 20 in three: 1/2", x.target(CHANCE), 20);
        RainTarget y = batted(COIN, 3, 19);
        y.rain(1);
        Check.due("20 in four and in three: 1/2", y.target(CHANCE), 20);
        Check.due("as much", y.gain(CHANCE), 1000000);
        RainTarget made = batted(COIN, 3, 19);
        made.play(19, 0);
        made.rain(2);
        Check.due("1 more in three: 7/8; in one 1/2: what it has made is enough", made.target(CHANCE), 19);
    }

    /** Terms, CHANCE: "1, if there is none". */
    private static void chanceIsOneAtLeast() {
        RainTarget x = batted(COIN, 3, 4);
        x.rain(4);
        Check.due("no overs: no target keeps 3/4", x.target(CHANCE), 1);
        Check.due("its odds are gone", x.odds(CHANCE), 0);
        RainTarget y = batted(COIN, 3);
        y.rain(3);
        Check.due("1 in one over is less than 1 in four", y.target(CHANCE), 1);
        RainTarget one = batted(COIN, 3, 4);
        one.play(1, 0);
        one.rain(3);
        Check.due("the run that was made keeps all odds", one.target(CHANCE), 1);
    }

    /** Terms, CHANCE: "not above that ahead of it": without a chance it stays where it was, RAIN by RAIN. */
    private static void chanceIsNeverAbove() {
        RainTarget x = batted(COIN, 3, 36, 5);
        for (int left = 3; left >= 0; left--) {
            x.rain(1);
            Check.due("42 in four can't be: it stays with " + left, x.target(CHANCE), 42);
        }
        RainTarget y = batted(COIN, 3, 36, 3);
        int[] due = {30, 20, 10, 1};
        for (int i = 0; i < 4; i++) {
            y.rain(1);
            Check.due("40 in four is 1/16, behind rain " + i, y.target(CHANCE), due[i]);
        }
        RainTarget made = batted(COIN, 3, 9);
        made.play(36, 0);
        made.rain(3);
        Check.due("36 are made, 10 are asked for", made.target(CHANCE), 10);
        for (int first = 0; first <= 432; first++) {
            RainTarget stays = Check.told("overs 12;mood 0 0 0 10", 2);
            for (int left = first; left > 0; left -= 36) {
                stays.bat(Math.min(36, left));
            }
            stays.rain(12);
            Check.due("it stays where nothing can be made", stays.target(CHANCE), first + 1);
        }
    }

    /** Terms, CHANCE: every TARGET from 1 to the most can be the greatest that keeps the odds. */
    private static void chanceByEveryRun() {
        for (int first = 0; first < 396; first++) {
            RainTarget x = Check.told("overs 12;men 1;mood 0 35 0 9 36 0 1", 3);
            for (int left = first; left > 0; left -= 36) {
                x.bat(Math.min(36, left));
            }
            x.rain(1);
            Check.due("up to 385 in eleven for sure", x.target(CHANCE), first < 385 ? first + 1 : 385);
        }
    }

    /** Terms, SAID: "FIRST and 1 less LINE times as many OVERS as RAIN took", "1 at least". */
    private static void saidIsOneAtLeast() {
        int[][] cases = {{10, 1, 6}, {10, 2, 1}, {11, 2, 2}, {9, 2, 1}, {0, 1, 1}, {4, 1, 1}, {5, 1, 1}, {6, 1, 2}};
        for (int[] c : cases) {
            RainTarget x = new RainTarget();
            Check.bat(x, c[0]);
            x.rain(c[1]);
            Check.due(c[0] + " said behind " + c[1], x.target(SAID), c[2]);
        }
        RainTarget all = allBatted(12);
        all.rain(12);
        Check.due("433 less 60", all.target(SAID), 373);
        Check.tell(all, "line 36", 1);
        Check.due("433 less 432", all.target(SAID), 1);
        Check.tell(all, "line 35", 1);
        Check.due("433 less 420", all.target(SAID), 13);
        Check.tell(all, "line 99", 1);
        Check.due("433 less 1188", all.target(SAID), 1);
        Check.tell(all, "line 0", 1);
        Check.due("433 less nothing", all.target(SAID), 433);
    }

    /** 17: TARGET less RUNS: one short, just made, far beyond. */
    private static void oddsOfWhatIsMade() {
        int[] made = {9, 10, 11, 36};
        int[] due = {750000, 750000, 1000000, 1000000};
        for (int i = 0; i < made.length; i++) {
            RainTarget x = batted(COIN, 3, 10);
            x.play(made[i], 0);
            x.rain(1);
            Check.tell(x, "line 0", 1);
            Check.due("odds of 11 with " + made[i], x.odds(SAID), due[i]);
        }
        RainTarget far = batted(COIN, 3, 36, 4);
        Check.due("41 in four", far.odds(RATE), 0);
        far.anew();
        Check.bat(far, 36, 3);
        Check.due("40 in four", far.odds(RATE), 62500);
    }

    private static void oddsWithoutOversOrMen() {
        int[] made = {19, 20, 21, 36};
        int[] due = {0, 0, 1000000, 1000000};
        for (int i = 0; i < made.length; i++) {
            RainTarget x = batted("overs 1;men 3", 2, 20);
            x.play(made[i], 0);
            Check.due("no overs, 21 with " + made[i], x.odds(RATE), due[i]);
            RainTarget y = batted("overs 9;men 3", 2, 20);
            y.play(made[i], 3);
            Check.due("no men, 21 with " + made[i], y.odds(RATE), due[i]);
        }
    }

    /** Terms: "times 1000000, cut": the least that can be told, and less than that. */
    private static void oddsAreCut() {
        RainTarget six = batted("overs 6;mood 0 1 0 1 0 0 9", 2, 5);
        Check.due("6 in six: a millionth", six.odds(RATE), 1);
        RainTarget seven = batted("overs 7;mood 0 1 0 1 0 0 9", 2, 6);
        Check.due("7 in seven: a tenth of that", seven.odds(RATE), 0);
        RainTarget twelve = batted("overs 12;mood 0 1 0 9 0 0 1", 2);
        Check.due("1 in twelve: all but a millionth of a millionth", twelve.odds(RATE), 999999);
        RainTarget five = batted("overs 6;mood 0 1 0 9 0 0 1", 2);
        Check.due("1 in six: all but a millionth", five.odds(RATE), 999999);
        RainTarget sure = batted("overs 12;mood 0 1 0 10", 2, 11);
        Check.due("12 in twelve, for sure", sure.odds(RATE), 1000000);
        RainTarget one = batted("overs 1;mood 0 1 0 1 0 0 9", 2);
        Check.due("1 in one", one.odds(RATE), 100000);
    }

    /** 18: "NOT: there was no RAIN." */
    private static void gainWithoutRain() {
        for (int rule = 0; rule < 6; rule++) {
            int asked = rule;
            Edge.refused("gain without events", RainTarget::new, x -> x.gain(asked), NOT);
            Edge.refused("gain without rain", Edge::withoutMen, x -> x.gain(asked), NOT);
            Edge.refused("gain of overs alone", () -> allPlayed(12), x -> x.gain(asked), NOT);
            Check.due("gain of one rain", rained(1).gain(rule), 1000000);
        }
        RainTarget x = rained(1);
        Check.due("anew", x.anew(), 0);
        Check.due("gain behind anew", x.gain(0), NOT);
        RainTarget refused = new RainTarget();
        Check.due("a refused rain", refused.rain(7), NOT);
        Check.due("is none", refused.gain(0), NOT);
    }

    /** 18: "in millionths, and 1000000": from 0 to 2000000. */
    private static void gainFromNoneToTwice() {
        RainTarget lost = rained(6);
        for (int rule = 0; rule < 6; rule++) {
            Check.due("1 in six is sure, in none it can't be", lost.gain(rule), 0);
        }
        RainTarget won = batted("overs 2", 1, 36);
        won.play(20, 0);
        won.rain(1);
        Check.due("17 in one can't be, 19 are made", won.gain(RATE), 2000000);
        Check.due("17 in one can't be, 16 in none", won.gain(CHANCE), 1000000);
        RainTarget same = batted("overs 12", 1, 36);
        same.rain(12);
        Check.due("37 in twelve is sure, 1 in none can't be", same.gain(RATE), 0);
    }

    /** Terms, GAIN: "(with what was then: OVERS, MEN, RUNS)": the last RAIN, whatever came behind it. */
    private static void gainOfLastRain() {
        RainTarget x = batted(COIN, 3, 19);
        x.rain(1);
        Check.due("WORST: 20 in three and in four", x.gain(WORST), 1000000);
        x.rain(1);
        Check.due("WORST: 20 in two less 20 in three", x.gain(WORST), 750000);
        x.play(36, 3);
        Check.due("behind play", x.gain(WORST), 750000);
        x.rain(1);
        Check.due("no men and won, ahead and behind", x.gain(WORST), 1000000);
    }

    /** 19: "has won (1) .. or goes on (2)": with TARGET just made, one short. */
    private static void wonAtTheTarget() {
        int[] made = {0, 9, 10, 11};
        int[] due = {2, 2, 1, 1};
        for (int i = 0; i < made.length; i++) {
            RainTarget x = batted("overs 3", 1, 9);
            x.play(made[i], 0);
            for (int rule = 0; rule < 6; rule++) {
                Check.due("10 with " + made[i] + ", rule " + rule, x.won(rule), due[i]);
            }
        }
        RainTarget none = new RainTarget();
        Check.due("nothing is made of 1", none.won(0), 2);
        none.play(0, 0);
        Check.due("nothing is made of 1 behind an over", none.won(0), 2);
        none.play(1, 3);
        Check.due("1 of 1, no men being left", none.won(0), 1);
    }

    /** 19: "has lost (0: no OVERS or MEN are left)", unless it has won. */
    private static void lostWithoutOversOrMen() {
        int[] made = {9, 10};
        for (int i = 0; i < 2; i++) {
            RainTarget overs = batted("overs 1", 1, 9);
            overs.play(made[i], 0);
            Check.due("no overs, 10 with " + made[i], overs.won(RATE), i);
            RainTarget men = batted("overs 2;men 1", 2, 9);
            men.play(made[i], 1);
            Check.due("no men, 10 with " + made[i], men.won(RATE), i);
            RainTarget taken = batted("overs 2;men 1;line 0", 3, 9);
            taken.play(made[i], 0);
            Check.due("goes on, 10 with " + made[i], taken.won(SAID), i == 0 ? 2 : 1);
            taken.rain(1);
            Check.due("taken, 10 with " + made[i], taken.won(SAID), i);
        }
        Check.due("all taken at the begin", rained(6).won(RATE), 0);
        Check.due("all but one taken at the begin", rained(5).won(RATE), 2);
    }
}
