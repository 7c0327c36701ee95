import java.nio.charset.StandardCharsets;
import java.util.Random;

/** Long runs of calls, drawn from fixed seeds: the class must answer as the model does. */
public final class ModelTest {
    private static final int RUNS = 250;
    /** A step may go on behind this by a long text, and must not reach the 512 calls of an object. */
    private static final int CALLS = 400;
    private static final String[] WORDS = {"overs", "men", "mood", "par", "cloud", "line"};

    private final Random random;
    private final RainTarget x = new RainTarget();
    private final Model m = new Model();
    private final boolean large;
    private final int seed;
    private int calls = 0;

    private ModelTest(int seed) {
        this.seed = seed;
        random = new Random(seed);
        large = seed % 4 == 0;
    }

    public static void main(String[] args) {
        for (int seed = 0; seed < RUNS; seed++) {
            ModelTest run = new ModelTest(seed);
            while (run.calls < CALLS) {
                run.step();
            }
        }
        Check.end();
    }

    private void due(String call, long got, long want) {
        calls++;
        Check.due("seed " + seed + ", call " + calls + ": " + call, got, want);
    }

    /** Mostly from least to most, at times one beside, at times far off. */
    private int near(int least, int most) {
        int kind = random.nextInt(40);
        if (kind == 0) {
            return random.nextInt();
        }
        if (kind == 1) {
            return random.nextBoolean() ? least - 1 : most + 1;
        }
        return least + random.nextInt(most - least + 1);
    }

    private void step() {
        switch (random.nextInt(12)) {
            case 0: text(); break;
            case 1: batting(); break;
            case 2: case 3: first(); break;
            case 4: case 5: case 6: second(); break;
            case 7: case 8: case 9: ruled(); break;
            case 10: judged(); break;
            default: counted(); break;
        }
    }

    private String number(int least, int most) {
        int kind = random.nextInt(60);
        if (kind == 0) {
            return "" + (most + 1);
        }
        if (kind == 1) {
            return "0" + least;
        }
        if (kind == 2) {
            return "" + (least - 1);
        }
        if (kind == 3) {
            return "000" + most;
        }
        return "" + (least + random.nextInt(most - least + 1));
    }

    private String mood() {
        StringBuilder s = new StringBuilder("mood ").append(number(0, 3));
        int open = 10;
        for (int i = 0; i < 4 && open > 0; i++) {
            int tenths = i == 3 ? open : 1 + random.nextInt(open);
            s.append(' ').append(number(0, random.nextBoolean() ? 12 : 36)).append(' ').append(number(0, 3));
            s.append(' ').append(random.nextInt(60) == 0 ? tenths + 1 : tenths);
            open -= tenths;
        }
        return s.toString();
    }

    private String line() {
        switch (random.nextInt(6)) {
            case 0: return "overs " + number(1, large ? 12 : 6);
            case 1: return "men " + number(1, large ? 10 : 4);
            case 2: return mood();
            case 3: return "par " + number(0, 400 / (1 + random.nextInt(4))) + " " + number(1, 300);
            case 4: return "cloud " + number(0, 10) + " " + number(0, 12);
            default: return "line " + number(0, random.nextBoolean() ? 15 : 99);
        }
    }

    private String lines() {
        StringBuilder s = new StringBuilder(line());
        for (int i = random.nextInt(random.nextInt(8) == 0 ? 9 : 3); i > 0; i--) {
            s.append(random.nextInt(4) == 0 ? " ; " : ";").append(line());
        }
        if (random.nextInt(8) == 0) {
            int at = random.nextInt(s.length());
            switch (random.nextInt(5)) {
                case 0: s.setCharAt(at, (char) random.nextInt(256)); break;
                case 1: s.deleteCharAt(at); break;
                case 2: s.insert(at, ' '); break;
                case 3: s.insert(at, ";"); break;
                default: s.insert(at, WORDS[random.nextInt(6)]); break;
            }
        }
        return s.toString();
    }

    private void text() {
        byte[] bytes = lines().getBytes(StandardCharsets.ISO_8859_1);
        for (int from = 0; from < bytes.length; ) {
            int n = Math.min(1 + random.nextInt(8), bytes.length - from);
            long packed = Check.packed(bytes, from, n) | (n < 8 ? random.nextLong() << 8 * n : 0);
            due("write", x.write(packed, n), m.write(packed, n));
            from += n;
        }
        due("fault", x.fault(), m.fault());
        if (random.nextInt(30) == 0) {
            int n = near(1, 8);
            due("write " + n, x.write(7, n), m.write(7, n));
        }
        if (random.nextInt(20) != 0) {
            due("game", x.game(), m.game());
        }
        if (random.nextInt(20) != 0) {
            due("erase", x.erase(), m.erase());
        }
    }

    private void batting() {
        int u = near(0, m.count(0));
        int v = near(0, m.count(1));
        int n = near(0, random.nextBoolean() ? 8 * m.count(0) : 999);
        int part = near(0, 1);
        due("makes", x.makes(u, v, part), m.makes(u, v, part));
        due("wins", x.wins(u, v, n, part), m.wins(u, v, n, part));
        int asked = random.nextBoolean() ? n : RainTarget.NONE;
        due("best", x.best(u, v, asked), m.best(u, v, asked));
        due("spend", x.spend(u, v), m.spend(u, v));
        int mood = near(0, 3);
        int i = near(0, 3);
        int what = near(-1, 2);
        due("mood", x.mood(mood, i, what), m.mood(mood, i, what));
    }

    private void first() {
        int runs = near(0, random.nextBoolean() ? 12 : 36);
        due("bat", x.bat(runs), m.bat(runs));
        if (random.nextInt(12) == 0) {
            due("anew", x.anew(), m.anew());
        }
    }

    private void second() {
        if (random.nextInt(3) == 0) {
            int k = near(1, random.nextInt(4) == 0 ? 12 : 2);
            due("rain", x.rain(k), m.rain(k));
        } else {
            int runs = near(0, random.nextBoolean() ? 12 : 36);
            int outs = near(0, random.nextBoolean() ? 1 : 3);
            due("play", x.play(runs, outs), m.play(runs, outs));
        }
        int i = near(0, 5);
        int what = near(0, 2);
        due("event", x.event(i, what), m.event(i, what));
    }

    private void ruled() {
        int rule = near(0, 5);
        due("target " + rule, x.target(rule), m.target(rule));
        due("odds " + rule, x.odds(rule), m.odds(rule));
        due("gain " + rule, x.gain(rule), m.gain(rule));
        due("won " + rule, x.won(rule), m.won(rule));
    }

    private void judged() {
        int rule = near(0, 5);
        int k = near(0, m.count(0));
        int what = near(0, 1);
        due("odd " + rule, x.odd(rule), m.odd(rule));
        due("sheet " + rule, x.sheet(rule, k), m.sheet(rule, k));
        due("clouded " + rule, x.clouded(rule), m.clouded(rule));
        due("simple " + what, x.simple(what), m.simple(what));
    }

    private void counted() {
        int u = near(0, 12);
        int v = near(0, 10);
        int runs = near(0, random.nextBoolean() ? 100 : 999);
        due("match", x.match(u, v, runs), m.match(u, v, runs));
        due("tried", x.tried(), m.tried());
        int what = near(0, 9);
        due("count " + what, x.count(what), m.count(what));
    }
}
