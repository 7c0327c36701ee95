/** Promises 11 to 19: bat, anew, play, rain, event, target, odds, gain, won. */
public final class SidesTest {
    private static final String COIN = "overs 4;men 2;mood 0 10 0 5 0 1 5";

    public static void main(String[] args) {
        bat();
        anew();
        play();
        rain();
        event();
        targetWithoutRain();
        rate();
        worst();
        table();
        bent();
        chance();
        said();
        targetsFollowWhatIsTold();
        odds();
        gain();
        won();
        noSuchRule();
        Check.end();
    }

    private static void targets(String when, RainTarget x, int... due) {
        for (int rule = 0; rule < due.length; rule++) {
            Check.due("target(" + rule + ") " + when, x.target(rule), due[rule]);
        }
    }

    private static void bat() {
        RainTarget x = new RainTarget();
        Check.due("bat(-1)", x.bat(-1), RainTarget.OUTSIDE);
        Check.due("bat(37)", x.bat(37), RainTarget.OUTSIDE);
        Check.bat(x, 0, 36, 1, 2, 3, 4);
        Check.due("bat beyond all overs", x.bat(5), RainTarget.FULL);
        Check.due("OUTSIDE ahead of FULL", x.bat(37), RainTarget.OUTSIDE);
        Check.due("FIRST", x.count(3), 46);
        Check.due("the second side is as it was", x.count(5), 6);
        RainTarget y = Check.told("overs 12", 1);
        Check.bat(y, 1, 2, 3, 4, 5, 6, 7, 8, 9, 10, 11, 12);
        Check.due("bat beyond twelve", y.bat(1), RainTarget.FULL);
        Check.due("FIRST of twelve", y.count(3), 78);
        Check.due("the best of twelve", y.sheet(1, 11), 13);
    }

    private static void anew() {
        RainTarget x = new RainTarget();
        Check.due("anew() of a new object", x.anew(), 0);
        Check.bat(x, 7, 9);
        x.play(5, 1);
        x.rain(2);
        x.match(1, 1, 1);
        Check.tell(x, "line 3", 1);
        Check.write(x, "men");
        Check.due("anew()", x.anew(), 16);
        int[] counts = {6, 3, 3, 0, 0, 6, 3, 0, 1, 3};
        for (int i = 0; i < counts.length; i++) {
            Check.due("count(" + i + ") behind anew", x.count(i), counts[i]);
        }
        Check.bat(x, 1);
        Check.due("worst overs are new, too", x.sheet(1, 5), 2);
    }

    private static void play() {
        RainTarget x = new RainTarget();
        Check.due("play(-1, 0)", x.play(-1, 0), RainTarget.OUTSIDE);
        Check.due("play(37, 0)", x.play(37, 0), RainTarget.OUTSIDE);
        Check.due("play(0, -1)", x.play(0, -1), RainTarget.OUTSIDE);
        Check.due("play(0, 4)", x.play(0, 4), RainTarget.OUTSIDE);
        Check.due("refused calls change nothing", x.count(4), 0);
        Check.due("play(36, 0)", x.play(36, 0), 36);
        Check.due("play(4, 2)", x.play(4, 2), 40);
        Check.due("overs left", x.count(5), 4);
        Check.due("men left", x.count(6), 1);
        Check.due("play(1, 3)", x.play(1, 3), 41);
        Check.due("no men are left", x.count(6), 0);
        Check.due("overs left", x.count(5), 3);
        Check.due("play without men", x.play(1, 0), RainTarget.NOT);
        Check.due("OUTSIDE ahead of NOT", x.play(37, 0), RainTarget.OUTSIDE);
        Check.due("events", x.count(4), 3);
        RainTarget y = Check.told("overs 2", 1);
        y.play(1, 0);
        y.play(2, 0);
        Check.due("play without overs", y.play(3, 0), RainTarget.NOT);
        Check.due("runs", y.count(7), 3);
        Check.due("overs are the first side's no more than the second's", y.bat(1), 1);
        RainTarget z = Check.told("overs 12;men 10", 2);
        for (int i = 1; i <= 12; i++) {
            Check.due("play(36, 0) " + i, z.play(36, 0), 36 * i);
        }
        Check.due("all overs played", z.play(0, 0), RainTarget.NOT);
        Check.due("twelve events", z.count(4), 12);
    }

    private static void rain() {
        RainTarget x = new RainTarget();
        Check.due("rain(0)", x.rain(0), RainTarget.OUTSIDE);
        Check.due("rain(-1)", x.rain(-1), RainTarget.OUTSIDE);
        Check.due("rain(13)", x.rain(13), RainTarget.OUTSIDE);
        Check.due("rain(12)", x.rain(12), RainTarget.NOT);
        Check.due("rain(7)", x.rain(7), RainTarget.NOT);
        Check.due("rain(2)", x.rain(2), 4);
        Check.due("play(1, 3)", x.play(1, 3), 1);
        Check.due("rain(4)", x.rain(4), RainTarget.NOT);
        Check.due("rain without men", x.rain(1), 2);
        Check.due("rain takes all", x.rain(2), 0);
        Check.due("rain takes more", x.rain(1), RainTarget.NOT);
        Check.due("OUTSIDE ahead of NOT", x.rain(13), RainTarget.OUTSIDE);
        Check.due("events", x.count(4), 4);
        RainTarget y = Check.told("overs 12", 1);
        for (int left = 11; left >= 0; left--) {
            Check.due("rain(1)", y.rain(1), left);
        }
        RainTarget z = Check.told("overs 12", 1);
        Check.due("rain(12)", z.rain(12), 0);
    }

    private static void event() {
        RainTarget x = new RainTarget();
        Check.due("no event", x.event(0, 0), RainTarget.UNKNOWN);
        x.play(7, 2);
        x.rain(3);
        x.play(9, 3);
        int[][] events = {{0, 7, 2}, {1, 3, 0}, {0, 9, 3}};
        for (int i = 0; i < 3; i++) {
            for (int what = 0; what < 3; what++) {
                Check.due("event(" + i + ", " + what + ")", x.event(i, what), events[i][what]);
            }
        }
        Check.due("event(3, 0)", x.event(3, 0), RainTarget.UNKNOWN);
        Check.due("event(-1, 0)", x.event(-1, 0), RainTarget.UNKNOWN);
        Check.due("event(0, 3)", x.event(0, 3), RainTarget.OUTSIDE);
        Check.due("event(0, -1)", x.event(0, -1), RainTarget.OUTSIDE);
        Check.due("UNKNOWN ahead of OUTSIDE", x.event(3, 3), RainTarget.UNKNOWN);
        x.anew();
        Check.due("events are gone", x.event(0, 0), RainTarget.UNKNOWN);
        x.rain(1);
        Check.due("a new event", x.event(0, 0), 1);
        Check.due("a new event", x.event(0, 1), 1);
        Check.due("a new event", x.event(0, 2), 0);
    }

    private static void targetWithoutRain() {
        RainTarget x = new RainTarget();
        targets("without anything", x, 1, 1, 1, 1, 1, 1);
        Check.bat(x, 20, 3);
        x.play(10, 1);
        targets("without rain", x, 24, 24, 24, 24, 24, 24);
    }

    private static void rate() {
        RainTarget x = Check.told("overs 7", 1);
        Check.bat(x, 20, 3);
        x.rain(2);
        Check.due("23 by 5 of 7", x.target(0), 17);
        x.play(9, 1);
        x.rain(1);
        Check.due("23 by 4 of 7", x.target(0), 14);
        x.rain(3);
        Check.due("23 by 1 of 7", x.target(0), 4);
    }

    private static void worst() {
        RainTarget x = Check.told("overs 5", 1);
        Check.bat(x, 9, 2, 9, 1);
        int[] due = {22, 22, 21, 19, 10, 1};
        for (int k = 0; k <= 5; k++) {
            Check.due("worst of " + k, x.sheet(1, k), due[k]);
        }
        x.rain(1);
        x.play(0, 0);
        x.rain(2);
        Check.due("three worst overs off", x.target(1), 19);
    }

    /** COIN: MAKES with one man 5, 7.5, 8.75, 9.375; with two men 5, 10, 13.75, 16.25. */
    private static void table() {
        RainTarget x = Check.told(COIN, 3);
        Check.due("spend(3, 2)", x.spend(3, 2), 846);
        Check.due("spend(3, 1)", x.spend(3, 1), 538);
        Check.due("spend(1, 1)", x.spend(1, 1), 307);
        Check.bat(x, 30, 10);
        x.rain(1);
        Check.due("40 by 846", x.target(2), 34);
        x.play(0, 1);
        x.rain(1);
        Check.due("40 by 846 less 461 and 307", x.target(2), 28);
        x.play(3, 1);
        Check.due("men that went later do not matter", x.target(2), 28);
        RainTarget none = Check.told("mood 0 0 0 10", 1);
        Check.bat(none, 20);
        none.rain(5);
        Check.due("nothing can be lost", none.target(2), 21);
    }

    /** FIRST 60, PAR 40, BEND 50: 20 above, so 30 parts by SPEND and 20 by OVERS. */
    private static void bent() {
        RainTarget x = Check.told(COIN + ";par 40 50", 4);
        Check.bat(x, 30, 30);
        Check.due("sheet(3, 1): (846 * 30 + 750 * 20) by 50 is 807", x.sheet(3, 1), 49);
        x.rain(1);
        Check.due("60 by 807", x.target(3), 49);
        x.play(0, 1);
        x.rain(1);
        Check.due("and 476 less 284", x.target(3), 37);
        Check.tell(x, "par 60 50", 1);
        Check.due("at par it is as TABLE", x.target(3), x.target(2));
        Check.tell(x, "par 60 1", 1);
        Check.due("at par it is as TABLE, whatever the bend", x.target(3), x.target(2));
        Check.tell(x, "par 59 1", 1);
        Check.due("one above par with a bend of one: by OVERS alone", x.target(3), 31);
        Check.tell(x, "par 0 60", 1);
        Check.due("as high as the bend: by OVERS alone", x.target(3), 31);
        Check.tell(x, "par 0 20", 1);
        Check.due("higher than the bend", x.target(3), 31);
    }

    /** COIN, two men: WINS of 20 in four overs 1/2, in three 1/2, in two 1/4; of 10 in two 3/4. */
    private static void chance() {
        RainTarget x = Check.told(COIN, 3);
        Check.bat(x, 19);
        Check.due("wins(4, 2, 20)", x.odds(4), 500000);
        x.rain(1);
        Check.due("target by keeping odds", x.target(4), 20);
        Check.due("its odds", x.odds(4), 500000);
        x.rain(1);
        Check.due("two men, two overs", x.target(4), 10);
        x.play(10, 1);
        Check.due("it has won", x.odds(4), 1000000);
        x.rain(1);
        Check.due("the target stays where it has won", x.target(4), 10);
        RainTarget y = Check.told(COIN, 3);
        Check.bat(y, 36, 36);
        y.rain(3);
        Check.due("no chance ahead: the target stays", y.target(4), 73);
        RainTarget w = Check.told(COIN, 3);
        Check.bat(w, 29);
        w.play(10, 0);
        w.rain(1);
        Check.due("20 more in three are 1/2, 10 more in two 3/4", w.target(4), 20);
        RainTarget z = Check.told(COIN, 3);
        Check.bat(z, 4);
        z.rain(4);
        Check.due("no target keeps the odds", z.target(4), 1);
    }

    private static void said() {
        RainTarget x = new RainTarget();
        Check.bat(x, 20, 3);
        x.rain(2);
        Check.due("24 less 10", x.target(5), 14);
        x.rain(2);
        Check.due("24 less 20", x.target(5), 4);
        x.rain(1);
        Check.due("1 at least", x.target(5), 1);
        Check.tell(x, "line 0", 1);
        Check.due("line 0", x.target(5), 24);
        Check.tell(x, "line 99", 1);
        Check.due("line 99", x.target(5), 1);
    }

    private static void targetsFollowWhatIsTold() {
        RainTarget x = new RainTarget();
        x.rain(3);
        targets("ahead of bat", x, 1, 1, 1, 1, 1, 1);
        Check.bat(x, 20);
        targets("behind bat", x, 11, 21, 11, 11, 12, 6);
    }

    private static void odds() {
        RainTarget x = Check.told(COIN, 3);
        Check.bat(x, 20);
        Check.due("odds of 21 in 4", x.odds(0), 312500);
        x.play(10, 0);
        Check.due("odds of 11 in 3", x.odds(0), 500000);
        x.play(0, 1);
        Check.due("odds of 11 in 2, one man", x.odds(0), 250000);
        x.rain(1);
        Check.due("by RATE 16 less 10 in 1", x.odds(0), 500000);
        Check.due("by SAID 16 less 10 in 1", x.odds(5), 500000);
        x.play(10, 0);
        Check.due("won", x.odds(0), 1000000);
        RainTarget y = Check.told("overs 12;men 10;mood 0 1 0 3 0 0 7", 3);
        Check.bat(y, 1);
        Check.due("cut, not rounded: 0.914974950051", y.odds(0), 914974);
    }

    private static void gain() {
        RainTarget x = Check.told(COIN, 3);
        Check.bat(x, 14);
        Check.due("no rain", x.gain(0), RainTarget.NOT);
        x.play(0, 0);
        Check.due("still no rain", x.gain(0), RainTarget.NOT);
        x.rain(1);
        Check.due("by RATE: 11 in 2 less 15 in 3", x.gain(0), 1000000 + 250000 - 500000);
        Check.due("by SAID: 10 in 2 less 15 in 3", x.gain(5), 1000000 + 750000 - 500000);
        x.play(10, 0);
        Check.due("what comes behind does not matter", x.gain(5), 1000000 + 750000 - 500000);
        x.rain(1);
        Check.due("the last rain: won ahead and behind", x.gain(5), 1000000);
        Check.due("by WORST: 5 in 0 less 5 in 1", x.gain(1), 500000);
        x.anew();
        Check.due("begun anew", x.gain(0), RainTarget.NOT);
        x.rain(3);
        Check.due("rain as the first event: 1 in 1 less 1 in 4", x.gain(0), 1000000 + 500000 - 750000);
    }

    private static void won() {
        RainTarget x = Check.told(COIN, 3);
        Check.bat(x, 14);
        Check.due("goes on", x.won(0), 2);
        x.play(14, 1);
        Check.due("one short", x.won(0), 2);
        x.rain(1);
        Check.due("by RATE won", x.won(0), 1);
        Check.due("by WORST goes on", x.won(1), 2);
        x.play(0, 1);
        Check.due("no men: by RATE won", x.won(0), 1);
        Check.due("no men: by WORST lost", x.won(1), 0);
        RainTarget y = Check.told(COIN, 3);
        y.rain(4);
        Check.due("no overs: lost", y.won(0), 0);
        RainTarget z = Check.told("overs 1", 1);
        z.play(1, 0);
        Check.due("no overs: won", z.won(4), 1);
    }

    private static void noSuchRule() {
        RainTarget x = new RainTarget();
        for (int rule : new int[] {-1, 6, Integer.MAX_VALUE, Integer.MIN_VALUE}) {
            Check.due("target(" + rule + ")", x.target(rule), RainTarget.UNKNOWN);
            Check.due("odds(" + rule + ")", x.odds(rule), RainTarget.UNKNOWN);
            Check.due("gain(" + rule + ") ahead of NOT", x.gain(rule), RainTarget.UNKNOWN);
            Check.due("won(" + rule + ")", x.won(rule), RainTarget.UNKNOWN);
        }
    }
}
