import java.util.NoSuchElementException;

/** What the tests share: counting wrong answers, and feeding a text to a new object. */
final class Check {
    private static int asked = 0;
    private static int wrong = 0;
    private static String about = "";

    private Check() {
    }

    /** What the answers behind this are about, told ahead of each wrong one. */
    static void about(String what) {
        about = what + ": ";
    }

    static void due(String call, long got, long want) {
        asked++;
        if (got != want) {
            wrong++;
            System.out.println(about + call + " answered " + got + ", due is " + want);
        }
    }

    static void due(String call, boolean got, boolean want) {
        due(call, got ? 1 : 0, want ? 1 : 0);
    }

    static void dueThrow(String call, NorthVines x, int i) {
        boolean thrown = false;
        try {
            x.led(i);
        } catch (NoSuchElementException e) {
            thrown = true;
        }
        due(call + " throws", thrown, true);
    }

    /** A call that must have been refused by this number. */
    static void refused(String call, NorthVines x, long got, int why) {
        due(call, got, -1);
        due(call + ", trouble()", x.trouble(), why);
    }

    /** An act that must have been done, or refused by this number. */
    static void act(String call, NorthVines x, boolean got, int why) {
        due(call, got, why == 0);
        due(call + ", trouble()", x.trouble(), why);
    }

    /** A call that must have been answered. */
    static void answered(String call, NorthVines x, long got, long want) {
        due(call, got, want);
        due(call + ", trouble()", x.trouble(), 0);
    }

    static void feed(NorthVines x, String text) {
        for (int i = 0; i < text.length(); i += 20) {
            x.feed(four(text, i), four(text, i + 4), four(text, i + 8), four(text, i + 12), four(text, i + 16));
        }
    }

    private static int four(String text, int start) {
        int number = 0;
        for (int i = start; i < start + 4; i++) {
            number = number << 8 | (i < text.length() ? text.charAt(i) & 255 : ' ');
        }
        return number;
    }

    static int read(NorthVines x, String text) {
        feed(x, text);
        return x.slope(text.length());
    }

    static NorthVines vines(String text) {
        NorthVines x = new NorthVines();
        due("slope of " + text, read(x, text) > 0, true);
        return x;
    }

    static void end(String name) {
        System.out.println(name + ": " + asked + " answers, " + wrong + " wrong");
        if (wrong != 0 || asked == 0) {
            System.exit(1);
        }
    }
}
