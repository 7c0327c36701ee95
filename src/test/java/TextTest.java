/** Promises 1 to 6: a new object, write, erase, fault, game, mood. */
public final class TextTest {
    public static void main(String[] args) {
        newObject();
        write();
        erase();
        faultsOfWords();
        faultsOfNumbers();
        faultsOfMoods();
        faultsOfLines();
        blanks();
        game();
        gameBeginsAnew();
        mood();
        Check.end();
    }

    private static void newObject() {
        RainTarget x = new RainTarget();
        int[] counts = {6, 3, 0, 0, 0, 6, 3, 0, 0, 5};
        for (int i = 0; i < counts.length; i++) {
            Check.due("new count(" + i + ")", x.count(i), counts[i]);
        }
        int[] sizes = {1, 0, 0, 0};
        for (int i = 0; i < sizes.length; i++) {
            Check.due("new mood(" + i + ", 0, NONE)", x.mood(i, 0, RainTarget.NONE), sizes[i]);
        }
        int[] parts = {4, 0, 10};
        for (int i = 0; i < parts.length; i++) {
            Check.due("new mood(0, 0, " + i + ")", x.mood(0, 0, i), parts[i]);
        }
        Check.due("new game()", x.game(), RainTarget.NOT);
        Check.due("new fault()", x.fault(), 0);
        Check.bat(x, 36, 36, 36, 36, 0, 0);
        Check.due("new par and bend: sheet(3, 3)", x.sheet(3, 3), 73);
        Check.due("new cloud: clouded(0)", x.clouded(0), 0);
    }

    private static void write() {
        RainTarget x = new RainTarget();
        Check.due("write n 0", x.write(0, 0), RainTarget.OUTSIDE);
        Check.due("write n 9", x.write(0, 9), RainTarget.OUTSIDE);
        Check.due("write n least", x.write(0, Integer.MIN_VALUE), RainTarget.OUTSIDE);
        Check.due("write n most", x.write(0, Integer.MAX_VALUE), RainTarget.OUTSIDE);
        for (int i = 1; i <= 24; i++) {
            Check.due("write to " + 8 * i, x.write(-1L, 8), 8 * i);
        }
        Check.due("write to 197", x.write(' ', 5), 197);
        Check.due("write beyond", x.write(' ', 4), RainTarget.FULL);
        Check.due("OUTSIDE ahead of FULL", x.write(' ', 9), RainTarget.OUTSIDE);
        Check.due("bytes are as they were", x.count(2), 197);
        Check.due("write to 200", x.write(' ', 3), 200);
        Check.due("write at 200", x.write(' ', 1), RainTarget.FULL);
        Check.due("count(2) of a full text", x.count(2), 200);
        Check.due("fault() of bytes 255", x.fault(), 0);
        Check.due("erase() of a full text", x.erase(), 200);
        Check.due("write takes n bytes alone", x.write(('1' << 8) + 'x', 1), 1);
        Check.due("fault()", x.fault(), 0);
        Check.due("erase()", x.erase(), 1);
        StringBuilder full = new StringBuilder("line 7");
        while (full.length() < 200) {
            full.insert(0, ' ');
        }
        Check.tell(x, full.toString(), 1);
        Check.due("a full text is done", x.count(9), 7);
    }

    private static void erase() {
        RainTarget x = new RainTarget();
        Check.due("erase() of none", x.erase(), 0);
        Check.write(x, "line 9 and more");
        Check.due("erase()", x.erase(), 15);
        Check.due("count(2)", x.count(2), 0);
        Check.due("erase() again", x.erase(), 0);
        Check.tell(x, "line 8", 1);
        Check.due("count(9)", x.count(9), 8);
    }

    private static void faultsOfWords() {
        Check.fault("", 0);
        Check.fault("   ", 3);
        Check.fault("over 5", 0);
        Check.fault("oversx 5", 0);
        Check.fault("xovers 5", 0);
        Check.fault(" Overs 5", 1);
        Check.fault("oVers 5", 0);
        Check.fault("5", 0);
        Check.fault(";", 0);
        Check.fault("overs", 5);
        Check.fault("overs  ", 7);
        Check.fault("overs men", 6);
        Check.fault("overs 5 men", 8);
        Check.fault("overs 5 6", 8);
        Check.fault("overs -5", 6);
        Check.fault("overs 5.", 7);
        Check.fault("overs\t5", 5);
        Check.fault("overs" + (char) 0 + "5", 5);
        Check.fault("overs 5" + (char) 200, 7);
        for (String word : new String[] {"overs", "men", "mood", "par", "cloud", "line"}) {
            Check.fault(word, word.length());
            Check.fault(word + word, 0);
            Check.fault(word + ";", word.length());
            Check.fault(word.substring(1) + " 1", 0);
            Check.fault(word + " 1000", word.length() + 1);
            Check.fault(word + " x", word.length() + 1);
            for (int i = 0; i < word.length(); i++) {
                Check.fault(word.substring(0, i) + "x" + word.substring(i + 1) + " 1 1 1 10", 0);
            }
        }
    }

    private static void bounds(String before, int least, int most, String behind) {
        int place = before.length();
        if (least > 0) {
            Check.fault(before + (least - 1) + behind, place);
        }
        Check.fault(before + least + behind, RainTarget.NONE);
        Check.fault(before + most + behind, RainTarget.NONE);
        Check.fault(before + (most + 1) + behind, place);
        Check.fault(before + "999" + behind, place);
        Check.fault(before + "0000" + behind, place);
        Check.fault(before + "99999999999999999999" + behind, place);
    }

    private static void faultsOfNumbers() {
        bounds("overs ", 1, 12, "");
        bounds("men ", 1, 10, "");
        bounds("par ", 0, 400, " 100");
        bounds("par 100 ", 1, 300, "");
        bounds("cloud ", 0, 10, " 1");
        bounds("cloud 1 ", 0, 12, "");
        bounds("line ", 0, 99, "");
        bounds("mood ", 0, 3, " 1 1 10");
        bounds("mood 1 ", 0, 36, " 1 10");
        bounds("mood 1 1 ", 0, 3, " 10");
        Check.fault("overs 012", RainTarget.NONE);
        Check.fault("overs 0012", 6);
        Check.fault("line 000", RainTarget.NONE);
        Check.fault("par 100", 7);
        Check.fault("par 100;", 7);
        Check.fault("par 100 x", 8);
        Check.fault("par 100 100 1", 12);
        Check.fault("cloud 1", 7);
        Check.fault("cloud 1 1 1", 10);
    }

    private static void faultsOfMoods() {
        Check.fault("mood 1", 6);
        Check.fault("mood 1;", 6);
        Check.fault("mood 1 1", 8);
        Check.fault("mood 1 1 1", 10);
        Check.fault("mood 1 1 1 10", RainTarget.NONE);
        Check.fault("mood 1 1 1 0", 11);
        Check.fault("mood 1 1 1 11", 11);
        Check.fault("mood 1 1 1 10 1", 14);
        Check.fault("mood 1 1 1 9", 12);
        Check.fault("mood 1 1 1 9;line 1", 12);
        Check.fault("mood 1 1 1 9 1 1", 16);
        Check.fault("mood 1 1 1 9 1 1 1", RainTarget.NONE);
        Check.fault("mood 1 1 1 9 1 1 2", 17);
        Check.fault("mood 1 1 1 9 37 1 1", 13);
        Check.fault("mood 1 1 1 9 1 4 1", 15);
        Check.fault("mood 1 1 1 1 2 2 2 3 3 3", 24);
        Check.fault("mood 1 1 1 1 2 2 2 3 3 3 4 3 4", RainTarget.NONE);
        Check.fault("mood 1 1 1 1 2 2 2 3 3 3 4 3 3", 29);
        Check.fault("mood 1 1 1 1 2 2 2 3 3 3 4 3 5", 29);
        Check.fault("mood 1 1 1 1 2 2 2 3 3 3 4 3 4 1", 31);
        Check.fault("mood 1 1 1 1 2 2 2 3 3 7", RainTarget.NONE);
        Check.fault("mood 1 1 1 1 2 2 2 3 3 8", 23);
    }

    private static void faultsOfLines() {
        Check.fault("line 1;", 7);
        Check.fault("line 1; ", 8);
        Check.fault("line 1;;line 1", 7);
        Check.fault(";line 1", 0);
        Check.fault("line 1,line 1", 6);
        Check.fault("line 1;line 1", RainTarget.NONE);
        StringBuilder eight = new StringBuilder("line 1");
        for (int i = 2; i <= 8; i++) {
            eight.append(";line ").append(i);
        }
        Check.fault(eight.toString(), RainTarget.NONE);
        Check.fault(eight + ";", 55);
        Check.fault(eight + " ;", 56);
        Check.fault(eight + ";line 9", 55);
        Check.fault(eight + "x", 55);
        RainTarget x = new RainTarget();
        Check.tell(x, eight.toString(), 8);
        Check.due("the last line holds", x.count(9), 8);
    }

    private static void blanks() {
        Check.fault("  overs  5  ;  men  3  ", RainTarget.NONE);
        Check.fault("overs5;men3", RainTarget.NONE);
        Check.fault("mood1 1 1 10;line2", RainTarget.NONE);
        Check.fault("ov ers 5", 0);
        Check.fault("overs 1 2", 8);
        RainTarget x = new RainTarget();
        Check.tell(x, "  overs12;men10  ;line99", 3);
        Check.due("count(0)", x.count(0), 12);
        Check.due("count(1)", x.count(1), 10);
        Check.due("count(9)", x.count(9), 99);
    }

    private static void game() {
        RainTarget x = new RainTarget();
        Check.write(x, "overs 3;men 11");
        Check.due("game() with a fault", x.game(), RainTarget.NOT);
        Check.due("nothing is done", x.count(0), 6);
        Check.due("the text stays", x.count(2), 14);
        Check.due("erase()", x.erase(), 14);
        Check.tell(x, "overs 3;men 7;overs 4", 3);
        Check.due("the text is empty", x.count(2), 0);
        Check.due("game() of none", x.game(), RainTarget.NOT);
        Check.due("lines in their order", x.count(0), 4);
        Check.due("men", x.count(1), 7);
        Check.due("line stays", x.count(9), 5);
        Check.tell(x, "men 2", 1);
        Check.due("overs stay", x.count(0), 4);
        Check.tell(x, "mood 1 9 1 10;mood 1 8 0 4 7 1 6", 2);
        Check.due("mood told twice", x.mood(1, 0, RainTarget.NONE), 2);
        Check.due("mood told twice", x.mood(1, 0, 0), 8);
        Check.due("mood 0 stays", x.mood(0, 0, 0), 4);
        Check.due("makes by the new moods", x.makes(1, 1, 0), 37);
        Check.due("makes by the new moods", x.makes(1, 1, 1), 5);
        Check.tell(x, "mood 1 0 0 10", 1);
        Check.due("makes by newer moods", x.makes(1, 1, 0), 4);
        Check.due("wins by newer moods", x.wins(1, 1, 5, 0), 0);
    }

    private static void gameBeginsAnew() {
        String[] texts = {"overs 6", "men 3", "mood 1 1 1 10", "par 50 50", "cloud 1 1", "line 5",
            "line 5;men 3;line 5", "mood 0 4 0 10"};
        boolean[] anew = {true, true, true, false, false, false, true, true};
        for (int i = 0; i < texts.length; i++) {
            RainTarget x = new RainTarget();
            Check.bat(x, 5, 6);
            Check.due("play(7, 1)", x.play(7, 1), 7);
            Check.due("rain(1)", x.rain(1), 4);
            Check.tell(x, texts[i], texts[i].split(";").length);
            Check.due("events behind " + texts[i], x.count(4), anew[i] ? 0 : 2);
            Check.due("overs left behind " + texts[i], x.count(5), anew[i] ? 6 : 4);
            Check.due("men left behind " + texts[i], x.count(6), anew[i] ? 3 : 2);
            Check.due("runs behind " + texts[i], x.count(7), anew[i] ? 0 : 7);
            Check.due("first behind " + texts[i], x.count(3), i == 0 ? 0 : 11);
            Check.due("bat behind " + texts[i], x.bat(0), i == 0 ? 1 : 3);
        }
        RainTarget x = Check.told("men 5;overs 9", 2);
        Check.due("anew behind all lines: overs", x.count(5), 9);
        Check.due("anew behind all lines: men", x.count(6), 5);
    }

    private static void mood() {
        RainTarget x = Check.told("mood 3 1 0 1 2 1 2 3 2 3 36 3 4", 1);
        Check.due("size", x.mood(3, 99, RainTarget.NONE), 4);
        Check.due("size, whatever i", x.mood(3, Integer.MIN_VALUE, RainTarget.NONE), 4);
        int[][] cases = {{1, 0, 1}, {2, 1, 2}, {3, 2, 3}, {36, 3, 4}};
        for (int i = 0; i < 4; i++) {
            for (int what = 0; what < 3; what++) {
                Check.due("mood(3, " + i + ", " + what + ")", x.mood(3, i, what), cases[i][what]);
            }
        }
        Check.due("no such case", x.mood(3, 4, 0), RainTarget.UNKNOWN);
        Check.due("no such case", x.mood(3, -1, 0), RainTarget.UNKNOWN);
        Check.due("no case of a mood not told", x.mood(2, 0, 0), RainTarget.UNKNOWN);
        Check.due("not told", x.mood(2, 0, RainTarget.NONE), 0);
        Check.due("no such mood", x.mood(4, 0, RainTarget.NONE), RainTarget.UNKNOWN);
        Check.due("no such mood", x.mood(-1, 0, RainTarget.NONE), RainTarget.UNKNOWN);
        Check.due("what 3", x.mood(3, 0, 3), RainTarget.OUTSIDE);
        Check.due("what -2", x.mood(3, 0, -2), RainTarget.OUTSIDE);
        Check.due("UNKNOWN ahead of OUTSIDE", x.mood(3, 4, 3), RainTarget.UNKNOWN);
        Check.due("UNKNOWN ahead of OUTSIDE", x.mood(4, 0, 3), RainTarget.UNKNOWN);
        Check.tell(x, "mood 3 5 1 10", 1);
        Check.due("told anew", x.mood(3, 0, RainTarget.NONE), 1);
        Check.due("told anew", x.mood(3, 0, 0), 5);
        Check.due("told anew", x.mood(3, 1, 0), RainTarget.UNKNOWN);
    }
}
