/** Edges of promises 1 to 6 and of the terms that texts tell, sentence by sentence. */
public final class TextEdgesTest {
    private static final int NONE = RainTarget.NONE;
    private static final int UNKNOWN = RainTarget.UNKNOWN;
    private static final int OUTSIDE = RainTarget.OUTSIDE;
    private static final int NOT = RainTarget.NOT;
    private static final int FULL = RainTarget.FULL;

    public static void main(String[] args) {
        newObject();
        newPar();
        newBend();
        newCloud();
        writeTakesOneToEight();
        writeGoesToTwoHundred();
        writeReadsBytesByPlace();
        erase();
        faultOfEmptyAndFull();
        faultAtLastByte();
        tokensOfEveryByte();
        digits();
        lines();
        cases();
        tenths();
        numbersThatTextsTell();
        moodsThatTextsTell();
        parAndBendThatTextsTell();
        cloudThatTextsTell();
        gameRefused();
        gameOfOneAndEightLines();
        gameEmptiesBothSides();
        whatEarlierTextsToldStays();
        mood();
        moodSizes();
        Check.end();
    }

    /** 1: "Six OVERS, three MEN, one MOOD." */
    private static void newObject() {
        RainTarget x = new RainTarget();
        Check.due("new makes(6, 3)", x.makes(6, 3, 0), 24);
        Check.due("new makes(7, 3)", x.makes(7, 3, 0), OUTSIDE);
        Check.due("new makes(6, 4)", x.makes(6, 4, 0), OUTSIDE);
        Check.due("new mood 0 has one case", x.mood(0, 0, NONE), 1);
        for (int mood = 1; mood <= 3; mood++) {
            Check.due("new mood " + mood + " is not told", x.mood(mood, 0, NONE), 0);
            Check.due("new mood " + mood + " has no case", x.mood(mood, 0, 0), UNKNOWN);
        }
        for (int what : new int[] {2, 3, 4, 7, 8}) {
            Check.due("new count(" + what + ")", x.count(what), 0);
        }
        Check.due("new event(0, 0)", x.event(0, 0), UNKNOWN);
        Check.due("new gain(0)", x.gain(0), NOT);
        Check.due("new tried()", x.tried(), 0);
        Check.due("new erase()", x.erase(), 0);
        Check.due("new anew()", x.anew(), 0);
        Check.due("new count(9)", x.count(9), 5);
        Check.bat(x, 1, 1, 1, 1, 1, 1);
        Check.due("new bat of a seventh", x.bat(1), FULL);
    }

    /** One over and three men spend all: so BENT differs from TABLE by the overs that were taken. */
    private static RainTarget flung(int... runs) {
        RainTarget x = Check.told("mood 0 36 3 10", 1);
        Check.bat(x, runs);
        return x;
    }

    /** Terms: "PAR is .. (100 at first)": 100 is not above it, 101 is. */
    private static void newPar() {
        Check.due("FIRST 100 at par", flung(36, 36, 28).sheet(3, 5), 101);
        Check.due("FIRST 101: 991 are left", flung(36, 36, 29).sheet(3, 5), 101);
        Check.due("FIRST 101 by TABLE", flung(36, 36, 29).sheet(2, 5), 102);
    }

    /** Terms: "BEND .. (100)": h is 99, 100 and no more. */
    private static void newBend() {
        Check.due("FIRST 199: 174 are left", flung(36, 36, 36, 36, 36, 19).sheet(3, 5), 35);
        Check.due("FIRST 200: 166 are left", flung(36, 36, 36, 36, 36, 20).sheet(3, 5), 34);
        Check.due("FIRST 216: 166 are left", flung(36, 36, 36, 36, 36, 36).sheet(3, 5), 36);
    }

    /** Terms: "CLOUD: so many tenths (.. 0) for so many OVERS (.. 0)". */
    private static void newCloud() {
        RainTarget x = new RainTarget();
        Check.bat(x, 23);
        for (int rule = 0; rule < 6; rule++) {
            Check.due("24 in six overs, rule " + rule, x.clouded(rule), 1000000);
        }
        RainTarget y = new RainTarget();
        Check.bat(y, 24);
        for (int rule = 0; rule < 6; rule++) {
            Check.due("25 in six overs, rule " + rule, y.clouded(rule), 0);
        }
    }

    /** 2: "n (1 .. 8) bytes more .. OUTSIDE". */
    private static void writeTakesOneToEight() {
        Edge.boundsEverywhere("write", (x, n) -> x.write(0x2020202020202020L, n), 1, 8, OUTSIDE);
        for (int n = 1; n <= 8; n++) {
            RainTarget x = new RainTarget();
            Check.due("write of " + n, x.write(0x2020202020202020L, n), n);
            Check.due("bytes behind " + n, x.count(2), n);
            Check.due("write of " + n + " more", x.write(0x2020202020202020L, n), 2 * n);
        }
    }

    private static RainTarget blanks(int length) {
        RainTarget x = new RainTarget();
        Check.write(x, " ".repeat(length));
        return x;
    }

    /** Terms: "THE TEXT is a row of bytes, 200 at most"; 2: "FULL". */
    private static void writeGoesToTwoHundred() {
        for (int length = 191; length <= 200; length++) {
            for (int n = 1; n <= 8; n++) {
                int had = length;
                int more = n;
                String call = "write of " + n + " behind " + length;
                if (length + n <= 200) {
                    Check.due(call, blanks(had).write(0x2020202020202020L, more), length + n);
                } else {
                    Edge.refused(call, () -> blanks(had), x -> x.write(0x2020202020202020L, more), FULL);
                }
            }
        }
        Edge.refused("write of 1 to what is full", Edge::full, x -> x.write(' ', 1), FULL);
        Edge.refused("write of 9 to what is full", Edge::full, x -> x.write(' ', 9), OUTSIDE);
        Edge.refused("write of 0 to what is full", Edge::full, x -> x.write(' ', 0), OUTSIDE);
        RainTarget x = blanks(199);
        Check.due("write of 2 behind 199", x.write(0x2020, 2), FULL);
        Check.due("no byte of it was taken", x.write(' ', 1), 200);
        Check.due("and no more", x.write(' ', 1), FULL);
    }

    /** 2: "byte i being bytes >> 8 i & 255": the eighth is the sign's, and those from n on are not taken. */
    private static void writeReadsBytesByPlace() {
        for (int i = 0; i < 8; i++) {
            RainTarget x = new RainTarget();
            x.write(0x2020202020202020L | 0xffL << 8 * i, 8);
            Check.due("fault of byte 255 at " + i, x.fault(), i);
            RainTarget y = new RainTarget();
            y.write(0x2020202020202020L | 0x80L << 8 * i, 8);
            Check.due("fault of byte 160 at " + i, y.fault(), i);
        }
        for (int n = 1; n <= 7; n++) {
            RainTarget x = new RainTarget();
            x.write(0x2020202020202020L | -1L << 8 * n, n);
            Check.due("blanks alone are taken of " + n, x.fault(), n);
        }
        RainTarget x = new RainTarget();
        x.write(0x3939656e696c2020L, 8);
        Check.due("'  line99' is done", x.game(), 1);
        Check.due("its line", x.count(9), 99);
    }

    /** 3: "THE TEXT is empty: how many bytes it had.": of none, of one, of all. */
    private static void erase() {
        for (int length : new int[] {0, 1, 8, 9, 199, 200}) {
            RainTarget x = blanks(length);
            Check.due("erase of " + length, x.erase(), length);
            Check.due("bytes behind it", x.count(2), 0);
            Check.due("fault behind it", x.fault(), 0);
            Check.due("erase again", x.erase(), 0);
        }
        RainTarget x = Edge.full();
        Check.due("erase of what is full", x.erase(), 200);
        int[] counts = {12, 10, 0, 432, 12, 0, 7, 216, 24, 99};
        for (int what = 0; what < counts.length; what++) {
            Check.due("count(" + what + ") behind erase", x.count(what), counts[what]);
        }
        Check.write(x, Edge.padded("line 98", 200));
        Check.due("200 bytes have room again", x.game(), 1);
        Check.due("their line", x.count(9), 98);
    }

    /** 4: "(the byte with which the TOKEN begins, or the length); NONE." */
    private static void faultOfEmptyAndFull() {
        Check.fault("", 0);
        Check.fault(" ", 1);
        Check.fault(" ".repeat(200), 200);
        Check.fault(Edge.padded("line", 200), 200);
        Check.fault(Edge.padded("line 1;", 200), 200);
        Check.fault(Edge.padded("mood 0 1 1 9", 200), 200);
        Check.fault(Edge.padded("line 1", 200), NONE);
        Check.fault("l".repeat(200), 0);
        Check.fault("line " + "1".repeat(195), 5);
        Check.fault("line " + "0".repeat(195), 5);
    }

    private static void faultAtLastByte() {
        Check.fault(Edge.padded("line 1", 199) + "x", 199);
        Check.fault(Edge.padded("line 1", 199) + "1", 199);
        Check.fault(Edge.padded("line 1", 199) + ";", 200);
        Check.fault(Edge.padded("line", 199) + "9", NONE);
        Check.fault(Edge.padded("line", 198) + "99", NONE);
        Check.fault(Edge.padded("line", 197) + "100", 197);
        Check.fault(" ".repeat(195) + "line1", NONE);
        Check.fault(" ".repeat(196) + "line", 200);
        Check.fault(" ".repeat(197) + "lin", 197);
    }

    /** Terms: "a TOKEN (a row of small letters, a row of digits, any other byte)", "blanks (32)", "; (59)". */
    private static void tokensOfEveryByte() {
        for (int b = 0; b < 256; b++) {
            String sign = String.valueOf((char) b);
            boolean letter = b >= 97 && b <= 122;
            boolean digit = b >= 48 && b <= 57;
            boolean blank = b == 32;
            Check.fault(sign + "line 5", blank ? NONE : 0);
            Check.fault("line" + sign + "5", blank || digit ? NONE : letter ? 0 : 4);
            Check.fault("line 5" + sign, blank || digit ? NONE : b == 59 ? 7 : 6);
            Check.fault("line 5 " + sign, blank ? NONE : b == 59 ? 8 : 7);
            Check.fault("line 5" + sign + "line 6", b == 59 ? NONE : blank || digit ? 7 : 6);
            Check.fault("li" + sign + "ne 5", 0);
            Check.fault("line 1" + sign + "1", digit || blank ? digit ? 5 : 7 : b == 59 ? 7 : 6);
        }
    }

    /** Terms: "numbers of 1 to 3 digits"; "a number .. of more digits". */
    private static void digits() {
        String[] taken = {"line 7", "line 07", "line 007", "overs 1", "overs 012", "men 010", "mood 003 036 003 010",
            "par 000 001", "par 400 300", "cloud 010 012", "cloud 000 000", "line 000"};
        for (String text : taken) {
            Check.fault(text, NONE);
        }
        Check.fault("line 0007", 5);
        Check.fault("overs 0001", 6);
        Check.fault("men 0001", 4);
        Check.fault("mood 0001 1 1 10", 5);
        Check.fault("mood 1 0001 1 10", 7);
        Check.fault("mood 1 1 0001 10", 9);
        Check.fault("mood 1 1 1 0010", 11);
        Check.fault("par 0001 1", 4);
        Check.fault("par 1 0001", 6);
        Check.fault("cloud 0001 1", 6);
        Check.fault("cloud 1 0001", 8);
        Check.fault("line 4294967297", 5);
        Check.fault("line 18446744073709551617", 5);
    }

    /** Terms: "LINES with ; (59) between, 1 to 8 (behind the 8th no ; can stand)". */
    private static void lines() {
        StringBuilder text = new StringBuilder();
        for (int lines = 1; lines <= 8; lines++) {
            text.append("line ").append(lines);
            Check.fault(text.toString(), NONE);
            Check.fault(text + ";", lines == 8 ? text.length() : text.length() + 1);
            Check.fault(text + " ;", text.length() + (lines == 8 ? 1 : 2));
            Check.fault(text + ";;", text.length() + (lines == 8 ? 0 : 1));
            RainTarget x = new RainTarget();
            Check.tell(x, text.toString(), lines);
            Check.due("the last of " + lines, x.count(9), lines);
            text.append(";");
        }
        Check.fault(text + "line 9", text.length() - 1);
        Check.fault(";", 0);
        Check.fault(" ;line 1", 1);
        Check.fault("line 1;;line 2", 7);
    }

    /** Terms: "each has 1 to 4 CASES", "the fourth makes them 10". */
    private static void cases() {
        String[] texts = {"mood 1 5 1 10", "mood 1 5 1 3 6 2 7", "mood 1 5 1 3 6 2 3 7 3 4",
            "mood 1 5 1 3 6 2 3 7 3 3 8 0 1"};
        for (int i = 0; i < texts.length; i++) {
            RainTarget x = Check.told(texts[i], 1);
            Check.due("cases of " + texts[i], x.mood(1, 0, NONE), i + 1);
            Check.due("runs of the last", x.mood(1, i, 0), 5 + i);
            Check.due("one behind the last", x.mood(1, i + 1, 0), UNKNOWN);
            Check.fault(texts[i] + " 9", texts[i].length() + 1);
            Check.fault(texts[i] + " 9 1 1", texts[i].length() + 1);
        }
        Check.fault("mood 1", 6);
        Check.fault("mood 1;line 1", 6);
        Check.fault("mood 1 5 1 3 6 2 3 7 3 3 8 0 0", 29);
        Check.fault("mood 1 5 1 3 6 2 3 7 3 2 8 0 1", 29);
        Check.fault("mood 1 5 1 3 6 2 3 7 3 2 8 0 2", NONE);
        Check.fault("mood 1 5 1 3 6 2 3 7 3 2 8 0 3", 29);
        Check.fault("mood 1 1 1 1 1 1 1 1 1 1 1 1 7", NONE);
        Check.fault("mood 1 1 1 1 1 1 1 1 1 1 1 1 6 1 1 1", 29);
    }

    /** Terms: "TENTHS of a MOOD are 10 together"; "TENTHS beyond 10 together, also". */
    private static void tenths() {
        for (int one = 0; one <= 11; one++) {
            String text = "mood 0 1 0 " + one;
            boolean taken = one >= 1 && one <= 10;
            Check.fault(text, one == 10 ? NONE : taken ? text.length() : 11);
            for (int two = 0; two <= 11 && taken && one < 10; two++) {
                String more = text + " 1 0 " + two;
                int due = one + two == 10 ? NONE : two >= 1 && one + two < 10 ? more.length() : 17;
                Check.fault(more, due);
            }
        }
        Check.fault("mood 0 1 0 5 1 0 4 1 0 1", NONE);
        Check.fault("mood 0 1 0 5 1 0 4 1 0 2", 23);
        Check.fault("mood 0 1 0 5 1 0 4 1 0 0", 23);
    }

    private interface Told {
        int by(RainTarget x);
    }

    private static RainTarget written(String text) {
        RainTarget x = new RainTarget();
        Check.bat(x, 30, 4);
        x.play(6, 1);
        x.rain(2);
        Check.write(x, text);
        return x;
    }

    /** The last numbers on both ends can be done, the first beyond them are faults, and nothing is done. */
    private static void ends(String before, int least, int most, String behind) {
        for (int number : new int[] {least, most}) {
            Check.due("game of " + before + number + behind, written(before + number + behind).game(), 1);
        }
        for (int number : new int[] {least - 1, most + 1}) {
            String text = before + number + behind;
            Check.fault(text, before.length());
            Edge.refused("game of " + text, () -> written(text), x -> x.game(), NOT);
        }
    }

    private static void told(String before, int least, int most, String behind, Told told) {
        ends(before, least, most, behind);
        for (int number = least; number <= most; number++) {
            RainTarget x = Check.told(before + number + behind, 1);
            Check.due("told by " + before + number + behind, told.by(x), number);
        }
    }

    /** Terms: "OVERS (1 .. 12", "MEN (1 .. 10", "RUNS (0 .. 36), OUTS (0 .. 3), TENTHS (1 ..)", "LINE 0 .. 99". */
    private static void numbersThatTextsTell() {
        told("overs ", 1, 12, "", x -> x.count(0));
        told("overs ", 1, 12, "", x -> x.count(5));
        told("men ", 1, 10, "", x -> x.count(1));
        told("men ", 1, 10, "", x -> x.count(6));
        told("line ", 0, 99, "", x -> x.count(9));
        told("mood 1 ", 0, 36, " 1 10", x -> x.mood(1, 0, 0));
        told("mood 1 1 ", 0, 3, " 10", x -> x.mood(1, 0, 1));
        told("mood 1 1 1 9 1 1 ", 1, 1, "", x -> x.mood(1, 1, 2));
        ends("mood ", 0, 3, " 7 1 10");
        ends("par ", 0, 400, " 300");
        ends("par 400 ", 1, 300, "");
        ends("cloud ", 0, 10, " 12");
        ends("cloud 10 ", 0, 12, "");
    }

    /** Terms: "MOODS are 0 .. 3": the one that is told, and no other. */
    private static void moodsThatTextsTell() {
        for (int mood = 0; mood <= 3; mood++) {
            RainTarget x = Check.told("mood " + mood + " 7 2 4 9 3 6", 1);
            for (int other = 0; other <= 3; other++) {
                Check.due("cases of " + other + ", " + mood + " being told", x.mood(other, 0, NONE),
                    other == mood ? 2 : other == 0 ? 1 : 0);
            }
            Check.due("its outs", x.mood(mood, 1, 1), 3);
        }
    }

    /** The target if eleven of twelve overs are taken, when one over is as much to spend as twelve. */
    private static int bent(String par, int first) {
        RainTarget x = Check.told("overs 12;mood 0 36 3 10;" + par, 3);
        for (int left = first; left > 0; left -= 36) {
            x.bat(Math.min(36, left));
        }
        Check.due("FIRST", x.count(3), first);
        return x.sheet(3, 11);
    }

    /** Terms: "PAR is 0 .. 400", "BEND 1 .. 300". */
    private static void parAndBendThatTextsTell() {
        Check.due("par 400 300 with 400: 1000 are left", bent("par 400 300", 400), 401);
        Check.due("par 400 300 with 401: 996 are left", bent("par 400 300", 401), 400);
        Check.due("par 400 300 with 432: 902 are left", bent("par 400 300", 432), 390);
        Check.due("par 0 300 with 0", bent("par 0 300", 0), 1);
        Check.due("par 0 300 with 1: 996 are left", bent("par 0 300", 1), 1);
        Check.due("par 0 300 with 299: 86 are left", bent("par 0 300", 299), 26);
        Check.due("par 0 300 with 300: 83 are left", bent("par 0 300", 300), 25);
        Check.due("par 0 300 with 432: 83 are left", bent("par 0 300", 432), 36);
        Check.due("par 400 1 with 400: 1000 are left", bent("par 400 1", 400), 401);
        Check.due("par 400 1 with 401: 83 are left", bent("par 400 1", 401), 34);
        Check.due("par 400 1 with 432: 83 are left", bent("par 400 1", 432), 36);
    }

    /** Terms: "CLOUD: so many tenths (0 .. 10..) for so many OVERS (0 .. 12..)"; 20 in one over can't be. */
    private static void cloudThatTextsTell() {
        String[] clouds = {"cloud 0 12", "cloud 1 12", "cloud 9 12", "cloud 10 12", "cloud 10 0", "cloud 0 0",
            "cloud 10 1", "cloud 10 2"};
        int[] due = {500000, 450000, 50000, 0, 500000, 500000, 500000, 250000};
        for (int i = 0; i < clouds.length; i++) {
            RainTarget x = Check.told("overs 4;men 2;mood 0 10 0 5 0 1 5;" + clouds[i], 4);
            Check.bat(x, 19);
            Check.due("clouded by " + clouds[i], x.clouded(1), due[i]);
        }
    }

    /** 5: "NOT: it has a FAULT": wherever it is, no line of it is done. */
    private static void gameRefused() {
        String[] texts = {"", " ", ";", "x", "overs", "overs 3;", "overs 3;men 11", "overs 3;men 2;mood 0 9 1 9",
            "line 1;line 2;line 3;line 4;line 5;line 6;overs 7;men 8;", "mood 0 9 1 10 1", "par 5 5;cloud 1"};
        for (String text : texts) {
            Edge.refused("game of '" + text + "'", () -> written(text), x -> x.game(), NOT);
        }
        Edge.refused("game of a full text with a fault", Edge::full, x -> x.game(), NOT);
        Edge.refused("game without men", Edge::withoutMen, x -> x.game(), NOT);
        RainTarget x = written("line 9;");
        Check.due("game", x.game(), NOT);
        Check.due("a refused text goes on by 'line 8'", x.write(0x3820656e696cL, 6), 13);
        Check.due("till it is whole", x.game(), 2);
        Check.due("and is done then", x.count(9), 8);
        Check.due("game of none", x.game(), NOT);
    }

    /** 5: "THE TEXT's LINES are done, and it is empty then: how many there were." */
    private static void gameOfOneAndEightLines() {
        RainTarget x = new RainTarget();
        Check.tell(x, Edge.padded("line 6", 200), 1);
        Check.due("empty behind game", x.count(2), 0);
        Check.due("fault behind game", x.fault(), 0);
        Check.due("erase behind game", x.erase(), 0);
        Check.tell(x, "overs 1;overs 2;overs 3;overs 4;men 5;men 6;line 7;overs 8", 8);
        Check.due("the eighth is done last", x.count(0), 8);
        Check.due("men", x.count(1), 6);
        Check.due("line", x.count(9), 7);
        Check.tell(x, Edge.padded("overs 12;men 10;line 0", 200), 3);
        Check.due("overs", x.count(5), 12);
    }

    private static void counts(String when, RainTarget x, int... due) {
        for (int what = 0; what < due.length; what++) {
            Check.due("count(" + what + ") " + when, x.count(what), due[what]);
        }
    }

    private static RainTarget fullAndTold(String text, int lines) {
        RainTarget x = Edge.full();
        Check.due("erase", x.erase(), 200);
        Check.tell(x, text, lines);
        return x;
    }

    /** Terms: "(If one is overs, men or mood, the SECOND SIDE begins anew ..; overs: the FIRST has no OVERS ..)" */
    private static void gameEmptiesBothSides() {
        String seven = "line 1;line 2;line 3;line 4;line 5;line 6;line 7;";
        RainTarget overs = fullAndTold(seven + "overs 12", 8);
        counts("behind overs", overs, 12, 10, 0, 0, 0, 12, 10, 0, 24, 7);
        Check.due("bat behind overs", overs.bat(36), 1);
        Check.due("event behind overs", overs.event(0, 0), UNKNOWN);
        RainTarget men = fullAndTold(seven + "men 10", 8);
        counts("behind men", men, 12, 10, 0, 432, 0, 12, 10, 0, 24, 7);
        Check.due("bat behind men", men.bat(36), FULL);
        RainTarget mood = fullAndTold("mood 3 0 0 10;" + seven.substring(0, 48), 8);
        counts("behind mood", mood, 12, 10, 0, 432, 0, 12, 10, 0, 24, 7);
        Check.due("bat behind mood", mood.bat(36), FULL);
        RainTarget rest = fullAndTold("par 0 1;cloud 0 0;line 0", 3);
        counts("behind the rest", rest, 12, 10, 0, 432, 12, 0, 7, 216, 24, 0);
        Check.due("play behind the rest", rest.play(0, 0), NOT);
        RainTarget fewer = fullAndTold("overs 1;men 1", 2);
        counts("behind the least", fewer, 1, 1, 0, 0, 0, 1, 1, 0, 24, 99);
    }

    /** Terms: "what earlier texts told stays, where nothing else is told". */
    private static void whatEarlierTextsToldStays() {
        RainTarget x = Check.told("overs 12;men 10;mood 3 36 3 10;line 99", 4);
        Check.tell(x, "line 0", 1);
        counts("behind line", x, 12, 10, 0, 0, 0, 12, 10, 0, 0, 0);
        Check.tell(x, "overs 1", 1);
        counts("behind overs", x, 1, 10, 0, 0, 0, 1, 10, 0, 0, 0);
        Check.tell(x, "men 1", 1);
        counts("behind men", x, 1, 1, 0, 0, 0, 1, 1, 0, 0, 0);
        Check.due("mood 3 stays", x.mood(3, 0, 1), 3);
        Check.due("mood 0 stays", x.mood(0, 0, 0), 4);
    }

    /** 6: "UNKNOWN; OUTSIDE. (What NONE: i does not matter.)" */
    private static void mood() {
        Edge.boundsEverywhere("mood, how many", (x, mood) -> x.mood(mood, 0, NONE), 0, 3, UNKNOWN);
        Edge.refusedEverywhere("no such mood, what 3", x -> x.mood(4, 0, 3), UNKNOWN);
        Edge.boundsEverywhere("mood, what", (x, what) -> x.mood(0, 0, what), -1, 2, OUTSIDE);
        Edge.bounds("mood, i of one", RainTarget::new, (x, i) -> x.mood(0, i, 0), 0, 0, UNKNOWN);
        Edge.bounds("mood, i of two", Edge::full, (x, i) -> x.mood(2, i, 1), 0, 1, UNKNOWN);
        Edge.bounds("mood, i of three", Edge::midway, (x, i) -> x.mood(1, i, 2), 0, 2, UNKNOWN);
        Edge.refusedEverywhere("mood not told", x -> x.mood(3, 0, 0), UNKNOWN);
        Edge.refusedEverywhere("mood not told, what 3", x -> x.mood(3, 0, 3), UNKNOWN);
        Edge.refusedEverywhere("mood, no such case, what 3", x -> x.mood(0, 1, 3), UNKNOWN);
        Edge.refusedEverywhere("mood, no such case, what -2", x -> x.mood(0, -1, -2), UNKNOWN);
        for (int i : new int[] {-1, 0, 1, 3, 4, Integer.MIN_VALUE, Integer.MAX_VALUE}) {
            Check.due("cases of mood 0, i " + i, new RainTarget().mood(0, i, NONE), 1);
            Check.due("cases of mood 3, i " + i, new RainTarget().mood(3, i, NONE), 0);
        }
    }

    /** 6: "how many (0: it is not told)": of none, one and four, and told anew with fewer. */
    private static void moodSizes() {
        for (int mood = 0; mood <= 3; mood++) {
            RainTarget x = new RainTarget();
            Check.due("told or not", x.mood(mood, 0, NONE), mood == 0 ? 1 : 0);
            Check.tell(x, "mood " + mood + " 36 3 1 0 0 2 1 1 3 2 2 4", 1);
            Check.due("four", x.mood(mood, 0, NONE), 4);
            Check.due("the fourth", x.mood(mood, 3, 2), 4);
            Check.due("the fifth", x.mood(mood, 4, 2), UNKNOWN);
            Check.tell(x, "mood " + mood + " 0 0 10", 1);
            Check.due("one", x.mood(mood, 0, NONE), 1);
            Check.due("the second is gone", x.mood(mood, 1, 0), UNKNOWN);
            Check.due("the first", x.mood(mood, 0, 2), 10);
        }
    }
}
