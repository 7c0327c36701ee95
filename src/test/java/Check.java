import java.nio.charset.StandardCharsets;

/** What the tests share: counting wrong answers, and writing texts. */
final class Check {
    private static int wrong = 0;
    private static int asked = 0;

    private Check() {
    }

    static void due(String call, long got, long want) {
        asked++;
        if (got != want) {
            wrong++;
            System.out.println(call + " answered " + got + ", due is " + want);
        }
    }

    /** Writes a text, eight bytes at a time. */
    static void write(RainTarget x, String text) {
        byte[] bytes = text.getBytes(StandardCharsets.ISO_8859_1);
        for (int from = 0; from < bytes.length; from += 8) {
            int n = Math.min(8, bytes.length - from);
            due("write of " + text, x.write(packed(bytes, from, n), n), from + n);
        }
    }

    static long packed(byte[] bytes, int from, int n) {
        long packed = 0;
        for (int i = 0; i < n; i++) {
            packed |= (bytes[from + i] & 255L) << 8 * i;
        }
        return packed;
    }

    /** Writes a text with so many lines and has it done. */
    static void tell(RainTarget x, String text, int lines) {
        write(x, text);
        due("fault() of " + text, x.fault(), RainTarget.NONE);
        due("game() of " + text, x.game(), lines);
    }

    /** The FAULT of a text must be at the place; the text is gone then. */
    static void fault(String text, int place) {
        RainTarget x = new RainTarget();
        write(x, text);
        due("fault() of '" + text + "'", x.fault(), place);
        due("erase() of '" + text + "'", x.erase(), text.length());
    }

    static RainTarget told(String text, int lines) {
        RainTarget x = new RainTarget();
        tell(x, text, lines);
        return x;
    }

    static void bat(RainTarget x, int... runs) {
        for (int i = 0; i < runs.length; i++) {
            due("bat(" + runs[i] + ")", x.bat(runs[i]), i + 1);
        }
    }

    static void end() {
        System.out.println(asked + " answers, " + wrong + " not as due");
        if (wrong != 0) {
            System.exit(1);
        }
    }
}
