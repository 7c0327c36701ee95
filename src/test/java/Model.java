import java.math.BigDecimal;
import java.math.BigInteger;
import java.math.RoundingMode;
import java.util.ArrayList;
import java.util.Collections;
import java.util.HashMap;
import java.util.List;
import java.util.Map;
import java.util.regex.Matcher;
import java.util.regex.Pattern;

/** The document written a second time, as plainly as the Java library allows, to be compared with. */
final class Model {
    private static final Pattern TOKEN = Pattern.compile("[a-z]+|[0-9]+|[^ ]", Pattern.DOTALL);
    private static final BigDecimal TENTH = new BigDecimal("0.1");

    private String text = "";
    private int overs = 6;
    private int men = 3;
    private int par = 100;
    private int bend = 100;
    private int cloudTenths = 0;
    private int cloudOvers = 0;
    private int line = 5;
    private final List<List<int[]>> moods = new ArrayList<>();
    private final List<Integer> first = new ArrayList<>();
    private final List<int[]> events = new ArrayList<>();
    private final List<int[]> matches = new ArrayList<>();
    private final Map<Integer, BigDecimal> means = new HashMap<>();
    private final Map<Integer, BigDecimal> chances = new HashMap<>();

    private final List<List<String>> lines = new ArrayList<>();

    Model() {
        for (int i = 0; i < 4; i++) {
            moods.add(new ArrayList<>());
        }
        moods.get(0).add(new int[] {4, 0, 10});
    }

    // texts

    int write(long bytes, int n) {
        if (n < 1 || n > 8) {
            return -3;
        }
        if (text.length() + n > 200) {
            return -5;
        }
        for (int i = 0; i < n; i++) {
            text += (char) (bytes >>> 8 * i & 255);
        }
        return text.length();
    }

    int erase() {
        int had = text.length();
        text = "";
        return had;
    }

    /** Every line in every state is told by what may stand next: a word, a number in bounds, ; or the end. */
    int fault() {
        lines.clear();
        List<String> now = new ArrayList<>();
        Matcher m = TOKEN.matcher(text);
        while (m.find()) {
            String token = m.group();
            if (token.equals(";")) {
                if (!isWhole(now) || lines.size() == 7) {
                    return m.start();
                }
                lines.add(now);
                now = new ArrayList<>();
            } else if (mayFollow(now, token)) {
                now.add(token);
            } else {
                return m.start();
            }
        }
        if (!isWhole(now)) {
            return text.length();
        }
        lines.add(now);
        return -1;
    }

    private static boolean mayFollow(List<String> now, String token) {
        if (now.isEmpty()) {
            return List.of("overs", "men", "mood", "par", "cloud", "line").contains(token);
        }
        if (isWhole(now) || !token.matches("[0-9]{1,3}")) {
            return false;
        }
        int value = Integer.parseInt(token);
        int i = now.size() - 1;
        switch (now.get(0)) {
            case "overs": return value >= 1 && value <= 12;
            case "men": return value >= 1 && value <= 10;
            case "line": return value <= 99;
            case "par": return i == 0 ? value <= 400 : value >= 1 && value <= 300;
            case "cloud": return i == 0 ? value <= 10 : value <= 12;
            default: break;
        }
        if (i == 0) {
            return value <= 3;
        }
        if (i % 3 == 1) {
            return value <= 36;
        }
        if (i % 3 == 2) {
            return value <= 3;
        }
        int sum = tenths(now) + value;
        return value >= 1 && sum <= 10 && (i != 12 || sum == 10);
    }

    private static int tenths(List<String> now) {
        int sum = 0;
        for (int i = 4; i < now.size(); i += 3) {
            sum += Integer.parseInt(now.get(i));
        }
        return sum;
    }

    private static boolean isWhole(List<String> now) {
        if (now.isEmpty()) {
            return false;
        }
        switch (now.get(0)) {
            case "par":
            case "cloud": return now.size() == 3;
            case "mood": return tenths(now) == 10;
            default: return now.size() == 2;
        }
    }

    int game() {
        if (fault() != -1) {
            return -4;
        }
        boolean anew = false;
        for (List<String> now : lines) {
            int[] numbers = now.stream().skip(1).mapToInt(Integer::parseInt).toArray();
            anew |= List.of("overs", "men", "mood").contains(now.get(0));
            switch (now.get(0)) {
                case "overs":
                    overs = numbers[0];
                    first.clear();
                    break;
                case "men":
                    men = numbers[0];
                    break;
                case "line":
                    line = numbers[0];
                    break;
                case "par":
                    par = numbers[0];
                    bend = numbers[1];
                    break;
                case "cloud":
                    cloudTenths = numbers[0];
                    cloudOvers = numbers[1];
                    break;
                default:
                    List<int[]> cases = moods.get(numbers[0]);
                    cases.clear();
                    for (int i = 1; i < numbers.length; i += 3) {
                        cases.add(new int[] {numbers[i], numbers[i + 1], numbers[i + 2]});
                    }
                    means.clear();
                    chances.clear();
                    break;
            }
        }
        if (anew) {
            events.clear();
        }
        text = "";
        return lines.size();
    }

    int mood(int mood, int i, int what) {
        if (mood < 0 || mood > 3 || what != -1 && (i < 0 || i >= moods.get(mood).size())) {
            return -2;
        }
        if (what < -1 || what > 2) {
            return -3;
        }
        return what == -1 ? moods.get(mood).size() : moods.get(mood).get(i)[what];
    }

    // what a side should do

    private BigDecimal mean(int u, int v) {
        if (u <= 0 || v <= 0) {
            return BigDecimal.ZERO;
        }
        int key = u * 100 + v;
        if (!means.containsKey(key)) {
            BigDecimal most = BigDecimal.ZERO;
            for (List<int[]> cases : moods) {
                most = most.max(meanOf(cases, u, v));
            }
            means.put(key, most);
        }
        return means.get(key);
    }

    private BigDecimal meanOf(List<int[]> cases, int u, int v) {
        BigDecimal sum = BigDecimal.ZERO;
        for (int[] c : cases) {
            BigDecimal then = mean(u - 1, v - c[1]).add(BigDecimal.valueOf(c[0]));
            sum = sum.add(then.multiply(BigDecimal.valueOf(c[2])).multiply(TENTH));
        }
        return sum;
    }

    private BigDecimal chance(int u, int v, int n) {
        if (n <= 0) {
            return BigDecimal.ONE;
        }
        if (u <= 0 || v <= 0 || n > 36 * u) {
            return BigDecimal.ZERO;
        }
        int key = (u * 100 + v) * 1000 + n;
        if (!chances.containsKey(key)) {
            BigDecimal most = BigDecimal.ZERO;
            for (List<int[]> cases : moods) {
                most = most.max(chanceOf(cases, u, v, n));
            }
            chances.put(key, most);
        }
        return chances.get(key);
    }

    private BigDecimal chanceOf(List<int[]> cases, int u, int v, int n) {
        BigDecimal sum = BigDecimal.ZERO;
        for (int[] c : cases) {
            sum = sum.add(chance(u - 1, v - c[1], n - c[0]).multiply(BigDecimal.valueOf(c[2])).multiply(TENTH));
        }
        return sum;
    }

    private static long part(BigDecimal value, int part) {
        BigInteger below = BigInteger.TEN.pow(20);
        BigInteger above = value.multiply(new BigDecimal(below)).toBigIntegerExact();
        BigInteger common = above.gcd(below);
        return (part == 0 ? above : below).divide(common).longValueExact();
    }

    private static int cut(BigDecimal value) {
        return value.setScale(0, RoundingMode.DOWN).intValueExact();
    }

    private boolean isOutside(int u, int v) {
        return u < 0 || u > overs || v < 0 || v > men;
    }

    long makes(int u, int v, int part) {
        return isOutside(u, v) || part < 0 || part > 1 ? -3 : part(mean(u, v), part);
    }

    long wins(int u, int v, int n, int part) {
        return isOutside(u, v) || n < 0 || n > 999 || part < 0 || part > 1 ? -3 : part(chance(u, v, n), part);
    }

    int best(int u, int v, int n) {
        if (isOutside(u, v) || n < -1 || n > 999) {
            return -3;
        }
        if (u == 0 || v == 0 || n == 0) {
            return -1;
        }
        for (int mood = 0; mood < 4; mood++) {
            List<int[]> cases = moods.get(mood);
            int less = n == -1 ? meanOf(cases, u, v).compareTo(mean(u, v))
                : chanceOf(cases, u, v, n).compareTo(chance(u, v, n));
            if (!cases.isEmpty() && less == 0) {
                return mood;
            }
        }
        throw new IllegalStateException("no best mood");
    }

    private int spent(int u, int v) {
        if (mean(overs, men).signum() == 0) {
            return 0;
        }
        return mean(u, v).multiply(BigDecimal.valueOf(1000))
            .divide(mean(overs, men), 0, RoundingMode.DOWN).intValueExact();
    }

    int spend(int u, int v) {
        return isOutside(u, v) ? -3 : spent(u, v);
    }

    // both sides

    private int firstRuns() {
        return first.stream().mapToInt(Integer::intValue).sum();
    }

    int bat(int runs) {
        if (runs < 0 || runs > 36) {
            return -3;
        }
        if (first.size() == overs) {
            return -5;
        }
        first.add(runs);
        return first.size();
    }

    int anew() {
        int had = firstRuns();
        first.clear();
        events.clear();
        return had;
    }

    private int oversLeft(List<int[]> till) {
        int left = overs;
        for (int[] e : till) {
            left -= e[0] == 1 ? e[1] : 1;
        }
        return left;
    }

    private int menLeft(List<int[]> till) {
        int left = men;
        for (int[] e : till) {
            left -= e[2];
        }
        return Math.max(0, left);
    }

    private static int made(List<int[]> till) {
        return till.stream().filter(e -> e[0] == 0).mapToInt(e -> e[1]).sum();
    }

    private static int taken(List<int[]> till) {
        return till.stream().filter(e -> e[0] == 1).mapToInt(e -> e[1]).sum();
    }

    int play(int runs, int outs) {
        if (runs < 0 || runs > 36 || outs < 0 || outs > 3) {
            return -3;
        }
        if (oversLeft(events) == 0 || menLeft(events) == 0) {
            return -4;
        }
        if (events.size() == 24) {
            return -5;
        }
        events.add(new int[] {0, runs, outs});
        return made(events);
    }

    int rain(int k) {
        if (k < 1 || k > 12) {
            return -3;
        }
        if (k > oversLeft(events)) {
            return -4;
        }
        if (events.size() == 24) {
            return -5;
        }
        events.add(new int[] {1, k, 0});
        return oversLeft(events);
    }

    int event(int i, int what) {
        if (i < 0 || i >= events.size()) {
            return -2;
        }
        return what < 0 || what > 2 ? -3 : events.get(i)[what];
    }

    private int bentSpent(int u, int v) {
        int h = Math.max(0, Math.min(bend, firstRuns() - par));
        return (spent(u, v) * (bend - h) + 1000 * u / overs * h) / bend;
    }

    private int chanceBehind(int target, int u, int v, int runs, int k) {
        BigDecimal ahead = chance(u, v, target - runs);
        for (int t = target; t >= 1; t--) {
            if (chance(u - k, v, t - runs).compareTo(ahead) >= 0) {
                return t;
            }
        }
        return 1;
    }

    private int targetBehind(int rule, List<int[]> till) {
        int total = firstRuns();
        int took = taken(till);
        int spentLost = 0;
        int bentLost = 0;
        int keeping = total + 1;
        for (int i = 0; i < till.size(); i++) {
            if (till.get(i)[0] == 1) {
                List<int[]> ahead = till.subList(0, i);
                int k = till.get(i)[1];
                int u = oversLeft(ahead);
                int v = menLeft(ahead);
                spentLost += spent(u, v) - spent(u - k, v);
                bentLost += bentSpent(u, v) - bentSpent(u - k, v);
                if (rule == 4) {
                    keeping = chanceBehind(keeping, u, v, made(ahead), k);
                }
            }
        }
        int[] targets = {total * (overs - took) / overs + 1, worst(took) + 1,
            total * (1000 - spentLost) / 1000 + 1, total * (1000 - bentLost) / 1000 + 1,
            keeping, total + 1 - line * took};
        return Math.max(1, targets[rule]);
    }

    private int worst(int took) {
        List<Integer> sorted = new ArrayList<>(first);
        while (sorted.size() < overs) {
            sorted.add(0);
        }
        Collections.sort(sorted);
        return sorted.subList(took, overs).stream().mapToInt(Integer::intValue).sum();
    }

    private int oddsBehind(int rule, List<int[]> till) {
        int n = targetBehind(rule, till) - made(till);
        return cut(chance(oversLeft(till), menLeft(till), n).movePointRight(6));
    }

    int target(int rule) {
        return rule < 0 || rule > 5 ? -2 : targetBehind(rule, events);
    }

    int odds(int rule) {
        return rule < 0 || rule > 5 ? -2 : oddsBehind(rule, events);
    }

    int gain(int rule) {
        if (rule < 0 || rule > 5) {
            return -2;
        }
        if (taken(events) == 0) {
            return -4;
        }
        int last = events.size() - 1;
        while (events.get(last)[0] == 0) {
            last--;
        }
        return 1000000 + oddsBehind(rule, events.subList(0, last + 1)) - oddsBehind(rule, events.subList(0, last));
    }

    int won(int rule) {
        if (rule < 0 || rule > 5) {
            return -2;
        }
        if (made(events) >= targetBehind(rule, events)) {
            return 1;
        }
        return oversLeft(events) == 0 || menLeft(events) == 0 ? 0 : 2;
    }

    // rules judged

    /** Events of a second side that loses k overs when u are left, nothing else having happened. */
    private List<int[]> oneRain(int u, int k) {
        List<int[]> happened = new ArrayList<>();
        for (int i = overs; i > u; i--) {
            happened.add(new int[] {0, 0, 0});
        }
        if (k > 0) {
            happened.add(new int[] {1, k, 0});
        }
        return happened;
    }

    int odd(int rule) {
        if (rule < 0 || rule > 5) {
            return -2;
        }
        for (int u = overs; u >= 1; u--) {
            for (int k = 1; k <= u - 1; k++) {
                boolean ahead = targetBehind(rule, oneRain(u, 0)) > 36 * u;
                boolean behind = targetBehind(rule, oneRain(u, k)) > 36 * (u - k);
                if (behind && !ahead) {
                    return 100 * u + k;
                }
            }
        }
        return -1;
    }

    int sheet(int rule, int k) {
        if (rule < 0 || rule > 5) {
            return -2;
        }
        return k < 0 || k > overs ? -3 : targetBehind(rule, oneRain(overs, k));
    }

    int clouded(int rule) {
        if (rule < 0 || rule > 5) {
            return -2;
        }
        int k = Math.min(cloudOvers, overs - 1);
        BigDecimal wet = chance(overs - k, men, sheet(rule, k)).multiply(BigDecimal.valueOf(cloudTenths));
        BigDecimal dry = chance(overs, men, firstRuns() + 1).multiply(BigDecimal.valueOf(10 - cloudTenths));
        return cut(wet.add(dry).movePointRight(5));
    }

    int simple(int what) {
        if (what < 0 || what > 1) {
            return -3;
        }
        int told = line;
        int nearest = -1;
        int least = Integer.MAX_VALUE;
        int[] keeping = new int[13];
        for (int k = 1; k < overs; k++) {
            keeping[k] = sheet(4, k);
        }
        for (line = 99; line >= 0; line--) {
            int sum = 0;
            for (int k = 1; k < overs; k++) {
                sum += Math.abs(sheet(5, k) - keeping[k]);
            }
            if (sum <= least) {
                least = sum;
                nearest = line;
            }
        }
        line = told;
        return what == 0 ? nearest : least;
    }

    int match(int u, int v, int runs) {
        if (u < 0 || u > 12 || v < 0 || v > 10 || runs < 0 || runs > 999) {
            return -3;
        }
        if (matches.size() == 24) {
            return -5;
        }
        matches.add(new int[] {u, v, runs});
        return matches.size();
    }

    int tried() {
        int sum = 0;
        for (int[] m : matches) {
            if (m[0] <= overs && m[1] <= men) {
                sum += Math.abs(cut(mean(m[0], m[1])) - m[2]);
            }
        }
        return sum;
    }

    int count(int what) {
        if (what < 0 || what > 9) {
            return -3;
        }
        int[] counts = {overs, men, text.length(), firstRuns(), events.size(), oversLeft(events),
            menLeft(events), made(events), matches.size(), line};
        return counts[what];
    }
}
