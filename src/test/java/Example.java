/** How the class is used: README.md shows this file and what it prints. */
final class Example {
    private Example() {
    }

    public static void main(String[] args) {
        RainTarget x = new RainTarget();
        write(x, "overs 5; men 4; mood 0 4 0 9 2 1 1; mood 1 12 0 5 6 1 3 0 2 2; line 6");
        if (x.fault() == RainTarget.NONE) {
            System.out.println("lines done: " + x.game());
        }
        System.out.println("mean of 5 overs, 4 men: " + x.makes(5, 4, 0) + "/" + x.makes(5, 4, 1));
        System.out.println("mood for 30 runs: " + x.best(5, 4, 30));
        for (int runs : new int[] {6, 3, 9, 12, 8}) {
            x.bat(runs);
        }
        System.out.println("first side: " + x.count(3) + ", sixth over: " + x.bat(4));
        x.play(10, 1);
        System.out.println("overs left behind the rain: " + x.rain(2));
        for (int rule = 0; rule < 6; rule++) {
            System.out.println("rule " + rule + ": target " + x.target(rule) + ", odds " + x.odds(rule)
                + ", gain " + (x.gain(rule) - 1000000));
        }
        System.out.println("the line that can be said: " + x.simple(0));
    }

    /** Eight bytes at a time, the first of them lowest in the long. */
    private static void write(RainTarget x, String text) {
        for (int from = 0; from < text.length(); from += 8) {
            int n = Math.min(8, text.length() - from);
            long bytes = 0;
            for (int i = 0; i < n; i++) {
                bytes |= (long) text.charAt(from + i) << 8 * i;
            }
            x.write(bytes, n);
        }
    }
}
