/** Promises 39 to 44: hail by chance, and grafts by draws. */
public final class ChanceTest {
    public static void main(String[] args) {
        oneRow();
        lowestTerms();
        onlyBelieversLose();
        surely();
        sixDays();
        grafts();
        graftsComeAhead();
        hailRefusals();
        graftRefusals();
        Check.end("ChanceTest");
    }

    private static void mean(NorthVines x, int n, long upper, long lower) {
        Check.answered("mean(" + n + ", false)", x, x.mean(n, false), upper);
        Check.answered("mean(" + n + ", true)", x, x.mean(n, true), lower);
    }

    private static void all(NorthVines x, int n, long upper, long lower) {
        Check.answered("all(" + n + ", false)", x, x.all(n, false), upper);
        Check.answered("all(" + n + ", true)", x, x.all(n, true), lower);
    }

    private static void doubt(NorthVines x, int r, int n, long upper, long lower) {
        Check.answered("doubt(" + r + ", " + n + ", false)", x, x.doubt(r, n, false), upper);
        Check.answered("doubt(" + r + ", " + n + ", true)", x, x.doubt(r, n, true), lower);
    }

    private static void oneRow() {
        NorthVines x = Check.vines("slope bears 5 hail 50;row a plain faith 11 grapes 1");
        mean(x, 0, 1, 1);
        all(x, 0, 1, 1);
        doubt(x, 0, 0, 0, 1);
        mean(x, 1, 1, 1);
        mean(x, 2, 3, 4);
        all(x, 2, 3, 4);
        doubt(x, 0, 2, 1, 4);
        mean(x, 3, 1, 2);
        doubt(x, 0, 3, 1, 2);
        Check.due("nothing went by", x.size(8), 0);
    }

    private static void lowestTerms() {
        NorthVines x = Check.vines("slope bears 5 hail 30;row a plain faith 10 grapes 1;row b plain faith 30 grapes 1"
                + ";row c plain faith 10 grapes 1");
        mean(x, 1, 12, 5);
        all(x, 1, 7, 10);
        doubt(x, 0, 1, 3, 10);
        doubt(x, 1, 1, 0, 1);
        doubt(x, 2, 2, 51, 100);
        all(x, 2, 49, 100);
    }

    private static void onlyBelieversLose() {
        // By t row a is 8, 9 and 10, and only then can hail take one from it.
        NorthVines x = Check.vines("slope bears 5 hail 50;row t plain faith 30 grapes 1;row a plain faith 7 grapes 1"
                + ";sees a t by 1");
        doubt(x, 1, 2, 1, 1);
        doubt(x, 1, 3, 1, 2);
    }

    private static void surely() {
        NorthVines always = Check.vines("slope bears 5 hail 100;row a plain faith 12 grapes 1");
        mean(always, 2, 1, 1);
        mean(always, 3, 0, 1);
        all(always, 3, 0, 1);
        doubt(always, 0, 3, 1, 1);
        NorthVines never = Check.vines("slope bears 5 hail 0;row a plain faith 10 grapes 1;row b plain faith 3 grapes 1");
        mean(never, 6, 1, 1);
        all(never, 6, 0, 1);
        doubt(never, 0, 6, 0, 1);
        doubt(never, 1, 6, 1, 1);
    }

    private static void sixDays() {
        NorthVines x = Check.vines("slope bears 5 hail 1;row a plain faith 15 grapes 1");
        doubt(x, 0, 6, 1, 1_000_000_000_000L);
        all(x, 6, 999_999_999_999L, 1_000_000_000_000L);
        NorthVines seven = Check.vines("slope bears 5 hail 99;row a plain faith 15 grapes 1;row b plain faith 15 grapes 1"
                + ";row c plain faith 15 grapes 1;row d plain faith 15 grapes 1;row e plain faith 15 grapes 1"
                + ";row f plain faith 15 grapes 1;row g plain faith 15 grapes 1");
        // 99 to the sixth is 941,480,149,401.
        mean(seven, 6, 7 * (1_000_000_000_000L - 941_480_149_401L), 1_000_000_000_000L);
    }

    private static void grafts() {
        // The seed 1000 becomes 9537, 59979, 41983, 3023, 30188: of two rows 1, 1, 1, 1, 0.
        NorthVines x = Check.vines("slope bears 5 hail 50;row a plain faith 20 grapes 1;row b deaf faith 20 grapes 1");
        int[] a = {20, 20, 20, 20, 20, 17};
        int[] b = {20, 17, 14, 11, 8, 8};
        for (int n = 0; n <= 5; n++) {
            Check.answered("grafted(0, 1000, " + n + ")", x, x.grafted(0, 1000, n), a[n]);
            Check.answered("grafted(1, 1000, " + n + ")", x, x.grafted(1, 1000, n), b[n]);
            Check.answered("graftDoubters(1000, " + n + ")", x, x.graftDoubters(1000, n), n >= 4 ? 2 : 0);
            Check.answered("graftWhen(1, 1000, " + n + ")", x, x.graftWhen(1, 1000, n), n >= 4 ? 4 : 0);
            Check.answered("graftWhen(0, 1000, " + n + ")", x, x.graftWhen(0, 1000, n), 0);
        }
        // Of seven rows the same seeds draw 3, 3, 4, 6, 4.
        NorthVines seven = Check.vines("slope bears 5 hail 50;row a plain faith 20 grapes 1;row b plain faith 20 grapes 1"
                + ";row c plain faith 20 grapes 1;row d plain faith 20 grapes 1;row e plain faith 20 grapes 1"
                + ";row f plain faith 20 grapes 1;row g plain faith 20 grapes 1");
        int[] behind = {20, 20, 20, 14, 14, 20, 17};
        for (int r = 0; r < 7; r++) {
            Check.answered("of seven: grafted(" + r + ", 1000, 5)", seven, seven.grafted(r, 1000, 5), behind[r]);
        }
        NorthVines one = Check.vines("slope bears 5 hail 50;row a plain faith 20 grapes 1");
        Check.answered("of one: grafted(0, 1000, 3)", one, one.grafted(0, 1000, 3), 11);
        // 65536 becomes 65536: 75 times it and 74 is 74 more than 75 * 65536, which is -75.
        Check.answered("grafted(0, 65536, 2)", x, x.grafted(0, 65536, 2), 14);
        Check.answered("grafted(1, 0, 1), by 74", x, x.grafted(1, 0, 1), 20);
        Check.answered("grafted(0, 0, 1), by 74", x, x.grafted(0, 0, 1), 17);
        NorthVines low = Check.vines("slope bears 5 hail 50;row a plain faith 2 grapes 1;row t plain faith 30 grapes 1"
                + ";sees a t by 1");
        Check.answered("0 at least, and then 1 more", low, low.grafted(0, 65536, 1), 1);
        Check.answered("one that doubts now isn't first behind 0", low, low.graftWhen(0, 65536, 0), 0);
        Check.answered("one that doubts from the first on", low, low.graftWhen(0, 65536, 40), 1);
    }

    private static void graftsComeAhead() {
        NorthVines x = Check.vines("slope bears 5 hail 50;row a plain faith 20 grapes 1;row b plain faith 12 grapes 1"
                + ";sees a b by 5");
        Check.due("a sees the graft of b on the same day", x.grafted(0, 1000, 1), 15);
        Check.due("b", x.grafted(1, 1000, 1), 9);
    }

    private static void hailRefusals() {
        NorthVines x = Check.vines("slope bears 5 hail 50;row a plain faith 11 grapes 1");
        NorthVines none = new NorthVines();
        for (boolean lower : new boolean[] {false, true}) {
            for (int wrong : new int[] {-1, 7, 40, Integer.MIN_VALUE, Integer.MAX_VALUE}) {
                Check.refused("mean(" + wrong + ")", x, x.mean(wrong, lower), 2);
                Check.refused("all(" + wrong + ")", x, x.all(wrong, lower), 2);
                Check.refused("doubt(0, " + wrong + ")", x, x.doubt(0, wrong, lower), 2);
                Check.refused("doubt(1, " + wrong + ")", x, x.doubt(1, wrong, lower), 1);
            }
            for (int wrong : new int[] {-1, -2, 1, Integer.MIN_VALUE, Integer.MAX_VALUE}) {
                Check.refused("doubt(" + wrong + ", 0)", x, x.doubt(wrong, 0, lower), 1);
            }
            Check.refused("mean", none, none.mean(9, lower), 1);
            Check.refused("all", none, none.all(9, lower), 1);
            Check.refused("doubt", none, none.doubt(0, 9, lower), 1);
        }
    }

    private static void graftRefusals() {
        NorthVines x = Check.vines("slope bears 5 hail 50;row a plain faith 11 grapes 1");
        for (int wrong : new int[] {-1, 41, Integer.MIN_VALUE, Integer.MAX_VALUE}) {
            Check.refused("grafted(0, 0, " + wrong + ")", x, x.grafted(0, 0, wrong), 2);
            Check.refused("graftDoubters(0, " + wrong + ")", x, x.graftDoubters(0, wrong), 2);
            Check.refused("graftWhen(0, 0, " + wrong + ")", x, x.graftWhen(0, 0, wrong), 2);
        }
        for (int wrong : new int[] {-1, 65537, Integer.MIN_VALUE, Integer.MAX_VALUE}) {
            Check.refused("grafted(0, " + wrong + ", 0)", x, x.grafted(0, wrong, 0), 2);
            Check.refused("graftDoubters(" + wrong + ", 0)", x, x.graftDoubters(wrong, 0), 2);
            Check.refused("graftWhen(0, " + wrong + ", 0)", x, x.graftWhen(0, wrong, 0), 2);
        }
        for (int wrong : new int[] {-1, 1, Integer.MIN_VALUE, Integer.MAX_VALUE}) {
            Check.refused("grafted(" + wrong + ", -1, -1)", x, x.grafted(wrong, -1, -1), 1);
            Check.refused("graftWhen(" + wrong + ", -1, -1)", x, x.graftWhen(wrong, -1, -1), 1);
        }
        NorthVines none = new NorthVines();
        Check.refused("grafted", none, none.grafted(0, -1, 0), 1);
        Check.refused("graftDoubters", none, none.graftDoubters(-1, 0), 1);
        Check.refused("graftWhen", none, none.graftWhen(0, -1, 0), 1);
    }
}
