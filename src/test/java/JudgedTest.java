/** Promises 20 to 26: odd, sheet, clouded, simple, match, tried, count. */
public final class JudgedTest {
    private static final String COIN = "overs 4;men 2;mood 0 10 0 5 0 1 5";

    public static void main(String[] args) {
        odd();
        sheet();
        clouded();
        simple();
        match();
        tried();
        count();
        noSuchRule();
        Check.end();
    }

    private static void odd() {
        RainTarget x = new RainTarget();
        for (int rule = 0; rule < 6; rule++) {
            Check.due("odd(" + rule + ") of a new object", x.odd(rule), RainTarget.NONE);
        }
        Check.bat(x, 20, 20, 20, 20, 20, 20);
        Check.due("RATE: one over gone, 41 in 1", x.odd(0), 504);
        Check.due("WORST: one over gone, 41 in 1", x.odd(1), 504);
        Check.due("SAID: 121 less 20 in 2 overs", x.odd(5), 604);
        Check.tell(x, "line 0", 1);
        Check.due("SAID: 121 in 3 overs", x.odd(5), 603);
        Check.tell(x, "line 19", 1);
        Check.due("SAID: 121 less 76 in 1", x.odd(5), 504);
        Check.tell(x, "line 31", 1);
        Check.due("SAID: a line that takes enough", x.odd(5), RainTarget.NONE);
        Check.due("CHANCE: no chance ahead, so the target stays", x.odd(4), 603);
        x.play(36, 3);
        x.rain(4);
        Check.due("what the second side did does not matter", x.odd(0), 504);
        RainTarget y = Check.told("overs 2", 1);
        Check.bat(y, 36, 36);
        Check.due("73 in two overs is too much ahead of rain", y.odd(5), RainTarget.NONE);
        RainTarget z = Check.told("overs 2", 1);
        Check.bat(z, 36, 35);
        Check.due("72 in two overs is not: 67 in one", z.odd(5), 201);
        Check.due("RATE: 35 and 1 in one", z.odd(0), RainTarget.NONE);
        RainTarget one = Check.told("overs 1", 1);
        Check.bat(one, 36);
        Check.due("one over: none can be taken with one left", one.odd(5), RainTarget.NONE);
    }

    private static void sheet() {
        RainTarget x = Check.told(COIN, 3);
        Check.bat(x, 30, 0, 10);
        int[][] due = {
            {41, 31, 21, 11, 1}, {41, 41, 41, 31, 1}, {41, 34, 25, 13, 1},
            {41, 34, 25, 13, 1}, {41, 41, 41, 41, 41}, {41, 36, 31, 26, 21}};
        for (int rule = 0; rule < 6; rule++) {
            for (int k = 0; k <= 4; k++) {
                Check.due("sheet(" + rule + ", " + k + ")", x.sheet(rule, k), due[rule][k]);
            }
            Check.due("sheet k -1", x.sheet(rule, -1), RainTarget.OUTSIDE);
            Check.due("sheet k 5", x.sheet(rule, 5), RainTarget.OUTSIDE);
        }
        x.anew();
        Check.bat(x, 30, 0, 9);
        int[] keeping = {40, 30, 20, 10, 1};
        for (int k = 0; k <= 4; k++) {
            Check.due("CHANCE: 40 in four is 1/16, k " + k, x.sheet(4, k), keeping[k]);
        }
        x.play(36, 2);
        x.rain(2);
        Check.due("what the second side did does not matter", x.sheet(4, 1), 30);
        Check.due("UNKNOWN ahead of OUTSIDE", x.sheet(6, 5), RainTarget.UNKNOWN);
    }

    private static void clouded() {
        RainTarget x = Check.told(COIN, 3);
        Check.bat(x, 19);
        Check.due("no cloud", x.clouded(0), 500000);
        Check.tell(x, "cloud 4 2", 1);
        Check.due("RATE: 4 tenths of 10 in 2", x.clouded(0), 300000 + 300000);
        Check.due("WORST: 4 tenths of 20 in 2", x.clouded(1), 300000 + 100000);
        Check.due("CHANCE: 4 tenths of 10 in 2", x.clouded(4), 600000);
        Check.tell(x, "cloud 10 3", 1);
        Check.due("SAID: 5 in 1", x.clouded(5), 500000);
        Check.tell(x, "cloud 10 12", 1);
        Check.due("all but one at most", x.clouded(5), 500000);
        Check.tell(x, "cloud 10 0", 1);
        Check.due("no overs", x.clouded(5), 500000);
        Check.tell(x, "cloud 0 12", 1);
        Check.due("no tenths", x.clouded(1), 500000);
        x.play(36, 0);
        Check.due("what the second side did does not matter", x.clouded(1), 500000);
        x.anew();
        Check.bat(x, 20);
        Check.due("the first side's runs and one more", x.clouded(1), 312500);
        RainTarget y = Check.told("overs 1;cloud 5 12;mood 0 2 0 10", 3);
        Check.bat(y, 1);
        Check.due("one over stays", y.clouded(0), 1000000);
        RainTarget z = Check.told("overs 12;men 10;cloud 3 1;mood 0 36 0 10", 4);
        Check.bat(z, 36);
        Check.due("no room is lost with twelve overs", z.clouded(1), 1000000);
    }

    private static void simple() {
        RainTarget x = Check.told(COIN, 3);
        Check.due("nothing to say", x.simple(0), 0);
        Check.due("nothing to say", x.simple(1), 0);
        Check.bat(x, 30, 9);
        Check.due("CHANCE 30, 20, 10 of 40", x.simple(0), 10);
        Check.due("the line fits", x.simple(1), 0);
        x.anew();
        Check.bat(x, 14);
        Check.due("CHANCE 20 to 15: 15, 10, 10", x.sheet(4, 1), 15);
        Check.due("CHANCE 20 to 15: 15, 10, 10", x.sheet(4, 2), 10);
        Check.due("CHANCE 20 to 15: 15, 10, 10", x.sheet(4, 3), 10);
        Check.due("lines 2: 2, 1, 1; 1: 1, 3, 2", x.simple(0), 2);
        Check.due("lines 2: 2, 1, 1", x.simple(1), 4);
        Check.due("LINE stays", x.count(9), 5);
        Check.due("what -1", x.simple(-1), RainTarget.OUTSIDE);
        Check.due("what 2", x.simple(2), RainTarget.OUTSIDE);
        RainTarget one = Check.told("overs 1", 1);
        Check.bat(one, 4);
        Check.due("no k to differ", one.simple(0), 0);
        Check.due("no k to differ", one.simple(1), 0);
        RainTarget high = Check.told("overs 2;mood 0 36 0 9 0 0 1", 2);
        Check.bat(high, 36, 35);
        Check.due("36 of 72", high.simple(0), 36);
        RainTarget two = Check.told("overs 3;mood 0 2 0 10", 2);
        Check.bat(two, 4);
        Check.due("4, 2 of 5: line 1 says 4, 3", two.simple(0), 1);
        Check.due("4, 2 of 5: line 1 says 4, 3", two.simple(1), 1);
        RainTarget low = Check.told("overs 2;mood 0 5 0 5 0 0 5", 2);
        Check.bat(low, 4);
        Check.due("1 of 5: lines from 4 on say 1", low.simple(0), 4);
        Check.due("1 of 5: lines from 4 on say 1", low.simple(1), 0);
    }

    private static void match() {
        RainTarget x = new RainTarget();
        int[][] wrong = {{-1, 0, 0}, {13, 0, 0}, {0, -1, 0}, {0, 11, 0}, {0, 0, -1}, {0, 0, 1000}};
        for (int[] w : wrong) {
            Check.due("match outside", x.match(w[0], w[1], w[2]), RainTarget.OUTSIDE);
        }
        Check.due("count(8)", x.count(8), 0);
        for (int i = 1; i <= 24; i++) {
            Check.due("match " + i, x.match(i % 13, i % 11, i == 1 ? 999 : 0), i);
        }
        Check.due("match 25", x.match(1, 1, 1), RainTarget.FULL);
        Check.due("OUTSIDE ahead of FULL", x.match(13, 1, 1), RainTarget.OUTSIDE);
        Check.due("count(8)", x.count(8), 24);
        x.anew();
        Check.tell(x, "overs 1;men 1;mood 0 1 0 10", 3);
        Check.due("matches stay", x.count(8), 24);
        Check.due("tried with 24: 998 and (0, 0), (0, 1), (1, 0) ..", x.tried(), 998);
    }

    private static void tried() {
        RainTarget x = Check.told(COIN, 3);
        Check.due("tried none", x.tried(), 0);
        x.match(4, 2, 20);
        Check.due("16.25 and 20", x.tried(), 4);
        x.match(3, 2, 10);
        Check.due("13.75 and 10", x.tried(), 7);
        x.match(0, 2, 5);
        x.match(3, 0, 6);
        Check.due("0 and 5, 0 and 6", x.tried(), 18);
        x.match(5, 2, 999);
        x.match(4, 3, 999);
        Check.due("more overs or men do not count", x.tried(), 18);
        Check.tell(x, "overs 5;men 3", 2);
        int more = 999 - (int) (x.makes(5, 2, 0) / x.makes(5, 2, 1))
            + 999 - (int) (x.makes(4, 3, 0) / x.makes(4, 3, 1));
        Check.due("now they do", x.tried(), 18 + more);
    }

    private static void count() {
        RainTarget x = Check.told("overs 7;men 4;line 9", 3);
        Check.write(x, "men 3");
        Check.bat(x, 10, 3);
        x.play(6, 1);
        x.rain(2);
        x.match(1, 1, 1);
        int[] counts = {7, 4, 5, 13, 2, 4, 3, 6, 1, 9};
        for (int i = 0; i < counts.length; i++) {
            Check.due("count(" + i + ")", x.count(i), counts[i]);
        }
        for (int what : new int[] {-1, 10, Integer.MAX_VALUE, Integer.MIN_VALUE}) {
            Check.due("count(" + what + ")", x.count(what), RainTarget.OUTSIDE);
        }
    }

    private static void noSuchRule() {
        RainTarget x = new RainTarget();
        for (int rule : new int[] {-1, 6, Integer.MAX_VALUE, Integer.MIN_VALUE}) {
            Check.due("odd(" + rule + ")", x.odd(rule), RainTarget.UNKNOWN);
            Check.due("sheet(" + rule + ", 0)", x.sheet(rule, 0), RainTarget.UNKNOWN);
            Check.due("clouded(" + rule + ")", x.clouded(rule), RainTarget.UNKNOWN);
        }
    }
}
