import java.util.ArrayList;
import java.util.List;

/** What the tests of edges share: objects in told states, and whether a refused call left one as it was. */
final class Edge {
    /** A call on an object. */
    interface Call {
        long on(RainTarget x);
    }

    /** A call on an object, by the one number that is moved over its bounds. */
    interface CallBy {
        long on(RainTarget x, int number);
    }

    /** Makes an object and brings it to where it stands, the same way each time. */
    interface State {
        RainTarget make();
    }

    /** From a new object to one with nothing left to take: a refused call must be refused in each. */
    static final State[] STATES = {RainTarget::new, Edge::midway, Edge::full, Edge::withoutMen};

    private Edge() {
    }

    /** Texts told, both sides on their way behind a rain, matches, and a text that waits to be done. */
    static RainTarget midway() {
        RainTarget x = Check.told("overs 8;men 4;mood 1 12 1 5 0 0 3 6 2 2;par 20 30;cloud 3 2;line 4", 6);
        Check.bat(x, 9, 0, 30, 7);
        x.play(5, 1);
        x.rain(2);
        x.play(11, 0);
        x.match(3, 2, 20);
        x.match(8, 4, 50);
        Check.write(x, "men 3;line 7");
        return x;
    }

    /** All that can be full is full, no overs are left, and the text has its fault at its very end. */
    static RainTarget full() {
        RainTarget x = Check.told("overs 12;men 10;mood 2 36 1 9 0 3 1;par 400 300;cloud 10 12;line 99", 6);
        Check.bat(x, 36, 36, 36, 36, 36, 36, 36, 36, 36, 36, 36, 36);
        for (int i = 0; i < 6; i++) {
            x.play(36, i % 2);
            x.rain(1);
        }
        for (int i = 0; i < 24; i++) {
            x.match(12 - i % 3, 10 - i % 2, 999 - i);
        }
        Check.write(x, padded("overs 3;men", 200));
        return x;
    }

    /** No men are left, though overs are. */
    static RainTarget withoutMen() {
        RainTarget x = Check.told("overs 3;men 2", 2);
        Check.bat(x, 1, 36);
        x.play(36, 3);
        x.match(1, 1, 1);
        Check.write(x, "line 99;line 100");
        return x;
    }

    static String padded(String text, int length) {
        return text + " ".repeat(length - text.length());
    }

    /** A refused call: it answers so, and an object that never had it can't be told from the one that had. */
    static void refused(String call, State state, Call asked, int answer) {
        RainTarget with = state.make();
        Check.due(call, asked.on(with), answer);
        List<Long> seen = seen(with);
        List<Long> due = seen(state.make());
        for (int i = 0; i < due.size(); i++) {
            Check.due("what can be seen (" + i + ") behind the refused " + call, seen.get(i), due.get(i));
        }
    }

    static void refusedEverywhere(String call, Call asked, int answer) {
        for (int i = 0; i < STATES.length; i++) {
            refused(call + " in state " + i, STATES[i], asked, answer);
        }
    }

    /** A number of least .. most: the last on both ends is not refused so, the first beyond them is. */
    static void bounds(String call, State state, CallBy asked, int least, int most, int answer) {
        for (int number : new int[] {least, most}) {
            Check.due(call + " is taken with " + number, asked.on(state.make(), number) != answer ? 1 : 0, 1);
        }
        for (int number : new int[] {least - 1, most + 1, Integer.MIN_VALUE, Integer.MAX_VALUE}) {
            refused(call + " with " + number, state, x -> asked.on(x, number), answer);
        }
    }

    static void boundsEverywhere(String call, CallBy asked, int least, int most, int answer) {
        for (int i = 0; i < STATES.length; i++) {
            bounds(call + " in state " + i, STATES[i], asked, least, most, answer);
        }
    }

    /** Some 270 calls: with those that make a state they stay below the 512 of an object. */
    private static List<Long> seen(RainTarget x) {
        List<Long> seen = new ArrayList<>();
        counts(x, seen);
        seen.add((long) x.fault());
        for (int mood = 0; mood < 4; mood++) {
            seen.add((long) x.mood(mood, 0, RainTarget.NONE));
            for (int at = 0; at < 12; at++) {
                seen.add((long) x.mood(mood, at / 3, at % 3));
            }
        }
        for (int at = 0; at < 36; at++) {
            seen.add((long) x.event(at / 3, at % 3));
        }
        for (int rule = 0; rule < 6; rule++) {
            ruled(x, rule, seen);
        }
        seen.add((long) x.simple(0));
        seen.add((long) x.simple(1));
        seen.add((long) x.tried());
        seen.add(x.makes(2, 1, 0));
        seen.add(x.wins(2, 1, 7, 0));
        seen.add((long) x.spend(2, 1));
        goesOn(x, seen);
        return seen;
    }

    private static void counts(RainTarget x, List<Long> seen) {
        for (int what = 0; what < 10; what++) {
            seen.add((long) x.count(what));
        }
    }

    private static void ruled(RainTarget x, int rule, List<Long> seen) {
        seen.add((long) x.target(rule));
        seen.add((long) x.odds(rule));
        seen.add((long) x.gain(rule));
        seen.add((long) x.won(rule));
        seen.add((long) x.odd(rule));
        seen.add((long) x.clouded(rule));
        for (int k = 0; k <= 12; k++) {
            seen.add((long) x.sheet(rule, k));
        }
    }

    /** What is held but not told shows when it is used. */
    private static void goesOn(RainTarget x, List<Long> seen) {
        seen.add((long) x.bat(7));
        seen.add((long) x.sheet(1, 1));
        seen.add((long) x.rain(1));
        seen.add((long) x.play(3, 1));
        seen.add((long) x.target(4));
        seen.add((long) x.match(1, 1, 5));
        seen.add((long) x.tried());
        seen.add((long) x.game());
        counts(x, seen);
        seen.add((long) x.write(' ', 1));
        seen.add((long) x.anew());
        seen.add((long) x.erase());
        counts(x, seen);
    }
}
