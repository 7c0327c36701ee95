import java.util.Arrays;

/** A target after rain: what a side should do, the odds of a chase, and targets by several rules. */
public final class RainTarget {
    public static final int NONE = -1, UNKNOWN = -2, OUTSIDE = -3, NOT = -4, FULL = -5;

    private static final int MAX_OVERS = 12;
    private static final int MAX_MEN = 10;
    private static final int MAX_RUNS = 36;
    private static final int MAX_OUTS = 3;
    private static final int MAX_ASKED = 999;
    private static final int MAX_EVENTS = 24;
    private static final int MAX_MATCHES = 24;

    private static final int MOODS = 4;
    private static final int MAX_CASES = 4;
    private static final int ALL_TENTHS = 10;
    private static final int RUNS = 0;
    private static final int OUTS = 1;
    private static final int TENTHS = 2;
    private static final int CASE_PARTS = 3;

    private static final int MAX_TEXT = 200;
    private static final int MAX_LINES = 8;
    private static final int MAX_DIGITS = 3;
    private static final int MAX_NUMBERS = 1 + MAX_CASES * CASE_PARTS;
    private static final int MAX_PAR = 400;
    private static final int MAX_BEND = 300;
    private static final int MAX_LINE = 99;

    private static final int WORD_OVERS = 0;
    private static final int WORD_MEN = 1;
    private static final int WORD_MOOD = 2;
    private static final int WORD_PAR = 3;
    private static final int WORD_CLOUD = 4;
    private static final int WORD_LINE = 5;

    private static final int RULES = 6;
    private static final int RATE = 0;
    private static final int WORST = 1;
    private static final int TABLE = 2;
    private static final int BENT = 3;
    private static final int CHANCE = 4;
    private static final int SAID = 5;

    private static final int ALL_SPENT = 1000;
    private static final int MILLION = 1000000;
    private static final int MILLION_TENS = 6;

    private static final long[] TEN = {
        1L, 10L, 100L, 1000L, 10000L, 100000L, 1000000L, 10000000L, 100000000L, 1000000000L,
        10000000000L, 100000000000L, 1000000000000L
    };

    private final Text text;
    private final Reader reader;
    private final Settings settings;
    private final Moods moods;
    private final Batting batting;
    private final FirstSide first;
    private final SecondSide second;
    private final Umpire umpire;
    private final Matches matches;

    public RainTarget() {
        text = new Text();
        reader = new Reader(text);
        settings = new Settings();
        moods = new Moods();
        batting = new Batting(moods);
        first = new FirstSide();
        second = new SecondSide();
        umpire = new Umpire(settings, batting, first);
        matches = new Matches();
        batting.learn();
        second.begin(settings);
    }

    // ---- texts

    public int write(long bytes, int n) {
        if (!within(n, 1, 8)) {
            return OUTSIDE;
        }
        if (n > MAX_TEXT - text.length) {
            return FULL;
        }
        text.append(bytes, n);
        return text.length;
    }

    public int erase() {
        int had = text.length;
        text.length = 0;
        return had;
    }

    public int fault() {
        return reader.read();
    }

    public int game() {
        if (reader.read() != NONE) {
            return NOT;
        }
        for (int line = 0; line < reader.lines; line++) {
            tell(line);
        }
        if (reader.has(WORD_MOOD)) {
            batting.learn();
        }
        if (reader.has(WORD_OVERS)) {
            first.begin();
        }
        if (reader.has(WORD_OVERS) || reader.has(WORD_MEN) || reader.has(WORD_MOOD)) {
            second.begin(settings);
        }
        text.length = 0;
        return reader.lines;
    }

    public int mood(int mood, int i, int what) {
        if (!within(mood, 0, MOODS - 1)) {
            return UNKNOWN;
        }
        if (what == NONE) {
            return moods.size(mood);
        }
        if (!within(i, 0, moods.size(mood) - 1)) {
            return UNKNOWN;
        }
        if (!within(what, 0, CASE_PARTS - 1)) {
            return OUTSIDE;
        }
        return moods.part(mood, i, what);
    }

    // ---- what a side should do

    public long makes(int u, int v, int part) {
        if (!isLeft(u, v) || !within(part, 0, 1)) {
            return OUTSIDE;
        }
        return lowest(batting.mean(u, v), power(u), part);
    }

    public long wins(int u, int v, int n, int part) {
        if (!isLeft(u, v) || !within(n, 0, MAX_ASKED) || !within(part, 0, 1)) {
            return OUTSIDE;
        }
        return lowest(batting.chance(u, v, n), power(u), part);
    }

    public int best(int u, int v, int n) {
        if (!isLeft(u, v) || !within(n, NONE, MAX_ASKED)) {
            return OUTSIDE;
        }
        if (u == 0 || v == 0 || n == 0) {
            return NONE;
        }
        return n == NONE ? batting.moodForMean(u, v) : batting.moodForChance(u, v, n);
    }

    public int spend(int u, int v) {
        if (!isLeft(u, v)) {
            return OUTSIDE;
        }
        return batting.share(u, v, settings);
    }

    // ---- both sides

    public int bat(int runs) {
        if (!within(runs, 0, MAX_RUNS)) {
            return OUTSIDE;
        }
        if (first.told >= settings.overs) {
            return FULL;
        }
        first.add(runs);
        return first.told;
    }

    public int anew() {
        int had = first.total;
        first.begin();
        second.begin(settings);
        return had;
    }

    public int play(int runs, int outs) {
        if (!within(runs, 0, MAX_RUNS) || !within(outs, 0, MAX_OUTS)) {
            return OUTSIDE;
        }
        if (second.isAtEnd()) {
            return NOT;
        }
        if (second.size >= MAX_EVENTS) {
            return FULL;
        }
        second.addOver(runs, outs);
        return second.runs;
    }

    public int rain(int k) {
        if (!within(k, 1, MAX_OVERS)) {
            return OUTSIDE;
        }
        if (k > second.overs) {
            return NOT;
        }
        if (second.size >= MAX_EVENTS) {
            return FULL;
        }
        second.addRain(k);
        return second.overs;
    }

    public int event(int i, int what) {
        if (!within(i, 0, second.size - 1)) {
            return UNKNOWN;
        }
        if (!within(what, 0, 2)) {
            return OUTSIDE;
        }
        return second.part(i, what);
    }

    public int target(int rule) {
        if (!isRule(rule)) {
            return UNKNOWN;
        }
        return umpire.behind(rule, second, second.size);
    }

    public int odds(int rule) {
        if (!isRule(rule)) {
            return UNKNOWN;
        }
        int needed = umpire.behind(rule, second, second.size) - second.runs;
        return batting.millionths(second.overs, second.men, needed);
    }

    public int gain(int rule) {
        if (!isRule(rule)) {
            return UNKNOWN;
        }
        int last = second.lastRain();
        if (last == NONE) {
            return NOT;
        }
        int overs = second.part(last, SecondSide.OVERS_AHEAD);
        int men = second.part(last, SecondSide.MEN_AHEAD);
        int runs = second.part(last, SecondSide.RUNS_AHEAD);
        int taken = second.part(last, SecondSide.MADE_OR_TAKEN);
        int ahead = batting.millionths(overs, men, umpire.behind(rule, second, last) - runs);
        int behind = batting.millionths(overs - taken, men,
            umpire.behind(rule, second, last + 1) - runs);
        return behind - ahead + MILLION;
    }

    public int won(int rule) {
        if (!isRule(rule)) {
            return UNKNOWN;
        }
        if (second.runs >= umpire.behind(rule, second, second.size)) {
            return 1;
        }
        return second.isAtEnd() ? 0 : 2;
    }

    // ---- rules judged

    public int odd(int rule) {
        if (!isRule(rule)) {
            return UNKNOWN;
        }
        for (int u = settings.overs; u >= 1; u--) {
            for (int k = 1; k < u; k++) {
                if (first.total + 1 <= MAX_RUNS * u
                    && umpire.afterOneRain(rule, u, k) > MAX_RUNS * (u - k)) {
                    return 100 * u + k;
                }
            }
        }
        return NONE;
    }

    public int sheet(int rule, int k) {
        if (!isRule(rule)) {
            return UNKNOWN;
        }
        if (!within(k, 0, settings.overs)) {
            return OUTSIDE;
        }
        return umpire.afterOneRain(rule, settings.overs, k);
    }

    public int clouded(int rule) {
        if (!isRule(rule)) {
            return UNKNOWN;
        }
        int overs = settings.overs;
        int taken = Math.min(settings.cloudOvers, overs - 1);
        int needed = umpire.afterOneRain(rule, overs, taken);
        long wet = batting.chance(overs - taken, settings.men, needed) * power(taken);
        long dry = batting.chance(overs, settings.men, first.total + 1);
        long both = wet * settings.cloudTenths + dry * (ALL_TENTHS - settings.cloudTenths);
        return inMillionths(both, overs + 1);
    }

    public int simple(int what) {
        if (!within(what, 0, 1)) {
            return OUTSIDE;
        }
        umpire.keepOddsOnSheet();
        int nearest = 0;
        int least = umpire.differenceOf(0);
        for (int line = 1; line <= MAX_LINE; line++) {
            int difference = umpire.differenceOf(line);
            if (difference < least) {
                nearest = line;
                least = difference;
            }
        }
        return what == 0 ? nearest : least;
    }

    public int match(int u, int v, int runs) {
        if (!within(u, 0, MAX_OVERS) || !within(v, 0, MAX_MEN) || !within(runs, 0, MAX_ASKED)) {
            return OUTSIDE;
        }
        if (matches.size >= MAX_MATCHES) {
            return FULL;
        }
        matches.add(u, v, runs);
        return matches.size;
    }

    public int tried() {
        return matches.differenceOf(batting, settings);
    }

    public int count(int what) {
        switch (what) {
            case 0:
                return settings.overs;
            case 1:
                return settings.men;
            case 2:
                return text.length;
            case 3:
                return first.total;
            case 4:
                return second.size;
            case 5:
                return second.overs;
            case 6:
                return second.men;
            case 7:
                return second.runs;
            case 8:
                return matches.size;
            case 9:
                return settings.line;
            default:
                return OUTSIDE;
        }
    }

    private void tell(int line) {
        int number = reader.number(line, 0);
        switch (reader.word(line)) {
            case WORD_OVERS:
                settings.overs = number;
                break;
            case WORD_MEN:
                settings.men = number;
                break;
            case WORD_MOOD:
                tellMood(line, number);
                break;
            case WORD_PAR:
                settings.par = number;
                settings.bend = reader.number(line, 1);
                break;
            case WORD_CLOUD:
                settings.cloudTenths = number;
                settings.cloudOvers = reader.number(line, 1);
                break;
            case WORD_LINE:
                settings.line = number;
                break;
            default:
                break;
        }
    }

    private void tellMood(int line, int mood) {
        moods.forget(mood);
        int tenths = 0;
        for (int i = 0; i < MAX_CASES && tenths < ALL_TENTHS; i++) {
            int at = 1 + i * CASE_PARTS;
            int due = reader.number(line, at + TENTHS);
            moods.add(mood, reader.number(line, at + RUNS), reader.number(line, at + OUTS), due);
            tenths += due;
        }
    }

    private boolean isLeft(int u, int v) {
        return within(u, 0, settings.overs) && within(v, 0, settings.men);
    }

    private static boolean isRule(int rule) {
        return within(rule, 0, RULES - 1);
    }

    private static boolean within(int value, int least, int most) {
        return value >= least && value <= most;
    }

    private static long power(int tens) {
        return tens >= 0 && tens < TEN.length ? TEN[tens] : 1L;
    }

    private static long cut(long above, long below) {
        return below > 0L ? above / below : 0L;
    }

    /** A part of 10 to the given power in millionths: scaled by tens only, as a million times it may not fit. */
    private static int inMillionths(long part, int tens) {
        if (tens < MILLION_TENS) {
            return (int) (part * power(MILLION_TENS - tens));
        }
        return (int) cut(part, power(tens - MILLION_TENS));
    }

    private static long lowest(long above, long below, int part) {
        long divisor = commonDivisor(above, below);
        return cut(part == 0 ? above : below, divisor);
    }

    private static long commonDivisor(long above, long below) {
        long a = below;
        long b = above;
        for (int i = 0; i < 100 && b > 0L; i++) {
            long rest = a % b;
            a = b;
            b = rest;
        }
        return a;
    }

    /** THE TEXT. */
    private static final class Text {
        private final int[] bytes = new int[MAX_TEXT];
        private int length;

        private void append(long packed, int n) {
            for (int i = 0; i < n && within(length, 0, MAX_TEXT - 1); i++) {
                bytes[length] = (int) (packed >> 8 * i & 255);
                length++;
            }
        }

        private int at(int i) {
            return i < length && within(i, 0, MAX_TEXT - 1) ? bytes[i] : NONE;
        }
    }

    /** Reads THE TEXT to its first FAULT and keeps the words and numbers of its lines. */
    private static final class Reader {
        private static final int END = 0;
        private static final int LETTERS = 1;
        private static final int DIGITS = 2;
        private static final int SEMICOLON = 3;
        private static final int OTHER = 4;

        private final Text text;
        private final int[] words = new int[MAX_LINES];
        private final int[] numbers = new int[MAX_LINES * MAX_NUMBERS];
        private int lines;
        private int kind;
        private int start;
        private int end;

        private Reader(Text text) {
            this.text = text;
        }

        /** The place of the FAULT, or NONE. */
        private int read() {
            lines = 0;
            end = 0;
            for (int line = 0; line < MAX_LINES; line++) {
                if (!readLine(line)) {
                    return start;
                }
                lines = line + 1;
                step();
                if (kind == END) {
                    return NONE;
                }
                if (kind != SEMICOLON) {
                    return start;
                }
            }
            return start;
        }

        private boolean has(int word) {
            for (int line = 0; line < lines; line++) {
                if (word(line) == word) {
                    return true;
                }
            }
            return false;
        }

        private int word(int line) {
            return within(line, 0, MAX_LINES - 1) ? words[line] : NONE;
        }

        private int number(int line, int i) {
            if (!within(line, 0, MAX_LINES - 1) || !within(i, 0, MAX_NUMBERS - 1)) {
                return 0;
            }
            return numbers[line * MAX_NUMBERS + i];
        }

        private boolean readLine(int line) {
            step();
            int word = spelled();
            if (!within(line, 0, MAX_LINES - 1)) {
                return false;
            }
            words[line] = word;
            switch (word) {
                case WORD_OVERS:
                    return readNumber(line, 0, 1, MAX_OVERS);
                case WORD_MEN:
                    return readNumber(line, 0, 1, MAX_MEN);
                case WORD_MOOD:
                    return readMood(line);
                case WORD_PAR:
                    return readNumber(line, 0, 0, MAX_PAR) && readNumber(line, 1, 1, MAX_BEND);
                case WORD_CLOUD:
                    return readNumber(line, 0, 0, ALL_TENTHS) && readNumber(line, 1, 0, MAX_OVERS);
                case WORD_LINE:
                    return readNumber(line, 0, 0, MAX_LINE);
                default:
                    return false;
            }
        }

        private boolean readMood(int line) {
            if (!readNumber(line, 0, 0, MOODS - 1)) {
                return false;
            }
            int open = ALL_TENTHS;
            for (int i = 0; i < MAX_CASES && open > 0; i++) {
                int at = 1 + i * CASE_PARTS;
                int least = i == MAX_CASES - 1 ? open : 1;
                if (!readNumber(line, at + RUNS, 0, MAX_RUNS)
                    || !readNumber(line, at + OUTS, 0, MAX_OUTS)
                    || !readNumber(line, at + TENTHS, least, open)) {
                    return false;
                }
                open -= number(line, at + TENTHS);
            }
            return true;
        }

        private boolean readNumber(int line, int i, int least, int most) {
            step();
            if (kind != DIGITS || end - start > MAX_DIGITS) {
                return false;
            }
            int value = 0;
            for (int at = start; at < end; at++) {
                value = value * 10 + text.at(at) - '0';
            }
            if (!within(value, least, most)
                || !within(line, 0, MAX_LINES - 1) || !within(i, 0, MAX_NUMBERS - 1)) {
                return false;
            }
            numbers[line * MAX_NUMBERS + i] = value;
            return true;
        }

        /** Goes to the next TOKEN; at the end of the text that is an empty one. */
        private void step() {
            int at = end;
            while (at < text.length && text.at(at) == ' ') {
                at++;
            }
            start = at;
            kind = kindOf(text.at(at));
            if (kind != END) {
                at++;
            }
            while (at < text.length && (kind == LETTERS || kind == DIGITS) && kindOf(text.at(at)) == kind) {
                at++;
            }
            end = at;
        }

        private static int kindOf(int sign) {
            if (sign == NONE) {
                return END;
            }
            if (within(sign, 'a', 'z')) {
                return LETTERS;
            }
            if (within(sign, '0', '9')) {
                return DIGITS;
            }
            return sign == ';' ? SEMICOLON : OTHER;
        }

        private int spelled() {
            if (spells("overs")) {
                return WORD_OVERS;
            }
            if (spells("men")) {
                return WORD_MEN;
            }
            if (spells("mood")) {
                return WORD_MOOD;
            }
            if (spells("par")) {
                return WORD_PAR;
            }
            if (spells("cloud")) {
                return WORD_CLOUD;
            }
            return spells("line") ? WORD_LINE : NONE;
        }

        private boolean spells(String word) {
            if (end - start != word.length()) {
                return false;
            }
            for (int i = 0; i < word.length(); i++) {
                if (text.at(start + i) != word.charAt(i)) {
                    return false;
                }
            }
            return true;
        }
    }

    /** What texts tell beside the MOODS. */
    private static final class Settings {
        private int overs = 6;
        private int men = 3;
        private int par = 100;
        private int bend = 100;
        private int cloudTenths = 0;
        private int cloudOvers = 0;
        private int line = 5;
    }

    /** The MOODS and their CASES. */
    private static final class Moods {
        private final int[] sizes = new int[MOODS];
        private final int[] parts = new int[MOODS * MAX_CASES * CASE_PARTS];

        private Moods() {
            add(0, 4, 0, ALL_TENTHS);
        }

        private void forget(int mood) {
            if (within(mood, 0, MOODS - 1)) {
                sizes[mood] = 0;
            }
        }

        private void add(int mood, int runs, int outs, int tenths) {
            if (!within(mood, 0, MOODS - 1) || !within(sizes[mood], 0, MAX_CASES - 1)) {
                return;
            }
            int at = (mood * MAX_CASES + sizes[mood]) * CASE_PARTS;
            parts[at + RUNS] = runs;
            parts[at + OUTS] = outs;
            parts[at + TENTHS] = tenths;
            sizes[mood]++;
        }

        private int size(int mood) {
            return mood >= 0 && mood < sizes.length ? sizes[mood] : 0;
        }

        private int part(int mood, int i, int what) {
            int at = (mood * MAX_CASES + i) * CASE_PARTS + what;
            return at >= 0 && at < parts.length ? parts[at] : 0;
        }
    }

    /** MAKES and WINS with u OVERS left, as whole parts of 10 to the power u, so that they are exact. */
    private static final class Batting {
        /** With u OVERS no more than 36 u RUNS can be made, so a row of that length is enough for each u. */
        private static final int CHANCES_BY_MEN = MAX_RUNS * MAX_OVERS * (MAX_OVERS + 1) / 2;

        private final Moods moods;
        private final long[] means = new long[(MAX_OVERS + 1) * (MAX_MEN + 1)];
        /** One more than the chance, so that 0 says: not yet reckoned. */
        private final long[] chances = new long[MAX_MEN * CHANCES_BY_MEN];

        private Batting(Moods moods) {
            this.moods = moods;
        }

        private void learn() {
            Arrays.fill(chances, 0L);
            for (int u = 1; u <= MAX_OVERS; u++) {
                for (int v = 1; v <= MAX_MEN; v++) {
                    long most = 0L;
                    for (int mood = 0; mood < MOODS; mood++) {
                        most = Math.max(most, meanIn(mood, u, v));
                    }
                    means[u * (MAX_MEN + 1) + v] = most;
                }
            }
        }

        private long mean(int u, int v) {
            if (!within(u, 0, MAX_OVERS) || !within(v, 0, MAX_MEN)) {
                return 0L;
            }
            return means[u * (MAX_MEN + 1) + v];
        }

        private long meanIn(int mood, int u, int v) {
            long sum = 0L;
            for (int i = 0; i < moods.size(mood); i++) {
                long now = moods.part(mood, i, RUNS) * power(u - 1);
                long later = mean(u - 1, v - moods.part(mood, i, OUTS));
                sum += moods.part(mood, i, TENTHS) * (now + later);
            }
            return sum;
        }

        private long chance(int u, int v, int n) {
            if (n <= 0) {
                return power(u);
            }
            if (!within(u, 1, MAX_OVERS) || !within(v, 1, MAX_MEN) || n > MAX_RUNS * u) {
                return 0L;
            }
            int at = (v - 1) * CHANCES_BY_MEN + MAX_RUNS * u * (u - 1) / 2 + n - 1;
            if (chances[at] == 0L) {
                long most = 0L;
                for (int mood = 0; mood < MOODS; mood++) {
                    most = Math.max(most, chanceIn(mood, u, v, n));
                }
                chances[at] = most + 1L;
            }
            return chances[at] - 1L;
        }

        private long chanceIn(int mood, int u, int v, int n) {
            long sum = 0L;
            for (int i = 0; i < moods.size(mood); i++) {
                int men = v - moods.part(mood, i, OUTS);
                sum += moods.part(mood, i, TENTHS) * chance(u - 1, men, n - moods.part(mood, i, RUNS));
            }
            return sum;
        }

        private int moodForMean(int u, int v) {
            for (int mood = 0; mood < MOODS; mood++) {
                if (moods.size(mood) > 0 && meanIn(mood, u, v) == mean(u, v)) {
                    return mood;
                }
            }
            return NONE;
        }

        private int moodForChance(int u, int v, int n) {
            for (int mood = 0; mood < MOODS; mood++) {
                if (moods.size(mood) > 0 && chanceIn(mood, u, v, n) == chance(u, v, n)) {
                    return mood;
                }
            }
            return NONE;
        }

        /** SPEND. */
        private int share(int u, int v, Settings settings) {
            long part = mean(u, v) * power(settings.overs - u);
            return (int) cut(ALL_SPENT * part, mean(settings.overs, settings.men));
        }

        private int millionths(int u, int v, int n) {
            return inMillionths(chance(u, v, n), u);
        }
    }

    /** THE FIRST SIDE. */
    private static final class FirstSide {
        private final int[] overs = new int[MAX_OVERS];
        private int told;
        private int total;

        private void begin() {
            Arrays.fill(overs, 0);
            told = 0;
            total = 0;
        }

        private void add(int runs) {
            if (within(told, 0, MAX_OVERS - 1)) {
                overs[told] = runs;
                told++;
                total += runs;
            }
        }

        /** RUNS of all but the least OVERS, so many of them taken off. */
        private int withoutLeast(int taken, int all) {
            int kept = 0;
            for (int i = 0; i < all && i < MAX_OVERS; i++) {
                if (rank(i, all) >= taken) {
                    kept += overs[i];
                }
            }
            return kept;
        }

        /** How many OVERS are taken off sooner than the one at i; of equal ones the earlier goes first. */
        private int rank(int i, int all) {
            int sooner = 0;
            for (int j = 0; j < all && j < MAX_OVERS; j++) {
                if (within(i, 0, MAX_OVERS - 1)
                    && (overs[j] < overs[i] || overs[j] == overs[i] && j < i)) {
                    sooner++;
                }
            }
            return sooner;
        }
    }

    /** THE SECOND SIDE and its events, each with how the side stood ahead of it. */
    private static final class SecondSide {
        private static final int IS_RAIN = 0;
        private static final int MADE_OR_TAKEN = 1;
        private static final int EVENT_OUTS = 2;
        private static final int OVERS_AHEAD = 3;
        private static final int MEN_AHEAD = 4;
        private static final int RUNS_AHEAD = 5;
        private static final int EVENT_PARTS = 6;

        private final int[] events = new int[MAX_EVENTS * EVENT_PARTS];
        private int size;
        private int overs;
        private int men;
        private int runs;

        private void begin(Settings settings) {
            size = 0;
            overs = settings.overs;
            men = settings.men;
            runs = 0;
        }

        private boolean isAtEnd() {
            return overs <= 0 || men <= 0;
        }

        private void addOver(int made, int outs) {
            addEvent(0, made, outs);
            overs--;
            men = Math.max(0, men - outs);
            runs += made;
        }

        private void addRain(int taken) {
            addEvent(1, taken, 0);
            overs -= taken;
        }

        private void addEvent(int isRain, int madeOrTaken, int outs) {
            if (!within(size, 0, MAX_EVENTS - 1)) {
                return;
            }
            int at = size * EVENT_PARTS;
            events[at + IS_RAIN] = isRain;
            events[at + MADE_OR_TAKEN] = madeOrTaken;
            events[at + EVENT_OUTS] = outs;
            events[at + OVERS_AHEAD] = overs;
            events[at + MEN_AHEAD] = men;
            events[at + RUNS_AHEAD] = runs;
            size++;
        }

        private int part(int i, int what) {
            if (!within(i, 0, MAX_EVENTS - 1) || !within(what, 0, EVENT_PARTS - 1)) {
                return 0;
            }
            return events[i * EVENT_PARTS + what];
        }

        private int lastRain() {
            for (int i = size - 1; i >= 0; i--) {
                if (part(i, IS_RAIN) == 1) {
                    return i;
                }
            }
            return NONE;
        }
    }

    /** Tells TARGETS: a RULE is begun, hears of each RAIN, and says its TARGET behind them. */
    private static final class Umpire {
        private static final int GREATEST_STEP = 256;

        private final Settings settings;
        private final Batting batting;
        private final FirstSide first;
        private final int[] keptOdds = new int[MAX_OVERS + 1];
        private int rule;
        private int taken;
        private int lost;
        private int kept;

        private Umpire(Settings settings, Batting batting, FirstSide first) {
            this.settings = settings;
            this.batting = batting;
            this.first = first;
        }

        /** The TARGET behind the first so many events. */
        private int behind(int byRule, SecondSide second, int events) {
            begin(byRule);
            for (int i = 0; i < events; i++) {
                if (second.part(i, SecondSide.IS_RAIN) == 1) {
                    hear(second.part(i, SecondSide.MADE_OR_TAKEN), second.part(i, SecondSide.OVERS_AHEAD),
                        second.part(i, SecondSide.MEN_AHEAD), second.part(i, SecondSide.RUNS_AHEAD));
                }
            }
            return ruled();
        }

        /** The TARGET if k OVERS are taken when u are left, all MEN being there and no RUNS made. */
        private int afterOneRain(int byRule, int u, int k) {
            begin(byRule);
            hear(k, u, settings.men, 0);
            return ruled();
        }

        private void keepOddsOnSheet() {
            begin(CHANCE);
            for (int k = 1; k < settings.overs && k <= MAX_OVERS; k++) {
                keptOdds[k] = keepingOdds(k, settings.overs, settings.men, 0);
            }
        }

        /** By how much SAID with a LINE differs from CHANCE, once that is kept on the sheet. */
        private int differenceOf(int line) {
            int sum = 0;
            for (int k = 1; k < settings.overs && k <= MAX_OVERS; k++) {
                sum += Math.abs(said(line, k) - keptOdds[k]);
            }
            return sum;
        }

        private void begin(int byRule) {
            rule = byRule;
            taken = 0;
            lost = 0;
            kept = first.total + 1;
        }

        private void hear(int k, int u, int v, int runs) {
            taken += k;
            if (rule == TABLE) {
                lost += batting.share(u, v, settings) - batting.share(u - k, v, settings);
            } else if (rule == BENT) {
                lost += bentShare(u, v) - bentShare(u - k, v);
            } else if (rule == CHANCE) {
                kept = keepingOdds(k, u, v, runs);
            }
        }

        private int ruled() {
            switch (rule) {
                case RATE:
                    return atLeastOne(cut(first.total * (settings.overs - taken), settings.overs) + 1);
                case WORST:
                    return atLeastOne(first.withoutLeast(taken, settings.overs) + 1);
                case TABLE:
                case BENT:
                    return atLeastOne(cut(first.total * (ALL_SPENT - lost), ALL_SPENT) + 1);
                case SAID:
                    return said(settings.line, taken);
                default:
                    return kept;
            }
        }

        private int said(int line, int overs) {
            return atLeastOne(first.total + 1 - line * overs);
        }

        private static int atLeastOne(long runs) {
            return (int) Math.max(1L, runs);
        }

        private int bentShare(int u, int v) {
            int bend = settings.bend;
            int height = Math.max(0, Math.min(bend, first.total - settings.par));
            int plain = batting.share(u, v, settings);
            long byOvers = cut(ALL_SPENT * u, settings.overs);
            return (int) cut(plain * (bend - height) + byOvers * height, bend);
        }

        /** WINS never grows with the RUNS needed, so halving steps up from 1 find the greatest TARGET. */
        private int keepingOdds(int k, int u, int v, int runs) {
            long ahead = batting.chance(u, v, kept - runs);
            int greatest = 1;
            for (int step = GREATEST_STEP; step > 0; step = step / 2) {
                int next = greatest + step;
                if (next <= kept && batting.chance(u - k, v, next - runs) * power(k) >= ahead) {
                    greatest = next;
                }
            }
            return greatest;
        }
    }

    /** Old MATCHES. */
    private static final class Matches {
        private static final int MATCH_PARTS = 3;

        private final int[] parts = new int[MAX_MATCHES * MATCH_PARTS];
        private int size;

        private void add(int u, int v, int runs) {
            if (!within(size, 0, MAX_MATCHES - 1)) {
                return;
            }
            int at = size * MATCH_PARTS;
            parts[at] = u;
            parts[at + 1] = v;
            parts[at + 2] = runs;
            size++;
        }

        private int differenceOf(Batting batting, Settings settings) {
            int sum = 0;
            for (int i = 0; i < size && i < MAX_MATCHES; i++) {
                int u = parts[i * MATCH_PARTS];
                int v = parts[i * MATCH_PARTS + 1];
                if (u <= settings.overs && v <= settings.men) {
                    int made = (int) cut(batting.mean(u, v), power(u));
                    sum += Math.abs(made - parts[i * MATCH_PARTS + 2]);
                }
            }
            return sum;
        }
    }
}
