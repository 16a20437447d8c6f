/** Edges of Term III and promises 39 to 44: hail by chance, grafts by draws. A test for each sentence. */
public final class EdgeChanceTest {
    private static final long MILLION = 1_000_000L;
    private static final int[] NO_HAIL_DAYS = {-1, 7, 40, Integer.MIN_VALUE, Integer.MAX_VALUE};
    private static final int[] NO_SEEDS = {-1, 65537, 65536 * 2, Integer.MIN_VALUE, Integer.MAX_VALUE};

    public static void main(String[] args) {
        hail();
        grafts();
        Edge.covered(39, 44);
        Check.end("EdgeChanceTest");
    }

    private static void hail() {
        asLikely();
        believersLose();
        losesThen();
        meanDays();
        meanLowest();
        meanNought();
        meanRefused();
        allRows();
        allRefused();
        doubtOne();
        doubtRefused();
    }

    private static void grafts() {
        drawModRows();
        aheadOfDay();
        noughtAtLeast();
        seedWraps();
        graftedDays();
        graftedSeeds();
        graftedRefused();
        graftDoubters();
        graftDoubtersRefused();
        graftWhenFirst();
        graftWhenNone();
        graftWhenRefused();
    }

    private static void mean(NorthVines x, int n, long upper, long lower) {
        Check.answered("mean(" + n + ", false)", x, x.mean(n, false), upper);
        Check.answered("mean(" + n + ", true)", x, x.mean(n, true), lower);
    }

    private static void all(NorthVines x, int n, long upper, long lower) {
        Check.answered("all(" + n + ", false)", x, x.all(n, false), upper);
        Check.answered("all(" + n + ", true)", x, x.all(n, true), lower);
    }

    private static void doubt(NorthVines x, int r, int n, long upper, long lower) {
        Check.answered("doubt(" + r + ", " + n + ", false)", x, x.doubt(r, n, false), upper);
        Check.answered("doubt(" + r + ", " + n + ", true)", x, x.doubt(r, n, true), lower);
    }

    private static String seven(int hail, int faith) {
        StringBuilder text = new StringBuilder("slope bears 0 hail " + hail);
        for (char c = 'a'; c <= 'g'; c++) {
            text.append(";row ").append(c).append(" plain faith ").append(faith).append(" grapes 1");
        }
        return text.toString();
    }

    // ---- hail

    private static void asLikely() {
        Edge.of("III", "HAIL by chance: on each of n DAYS it hails, as likely as told");
        int[][] due = {{0, 0, 1}, {1, 1, 100}, {50, 1, 2}, {75, 3, 4}, {99, 99, 100}, {100, 1, 1}};
        for (int[] d : due) {
            NorthVines x = Check.vines(Edge.slope("0 " + d[0], "a plain 10 1"));
            doubt(x, 0, 1, d[1], d[2]);
            // It has to hail twice.
            NorthVines two = Check.vines(Edge.slope("0 " + d[0], "a plain 11 1"));
            doubt(two, 0, 2, d[1] * d[1], d[2] * d[2]);
        }
    }

    private static void believersLose() {
        Edge.of("III", "each row that believes behind that DAY loses 1 then.");
        // By t row a is 9 behind the first DAY, and loses nothing; behind the second it is 10.
        NorthVines rising = Check.vines(Edge.slope("0 50", "t plain 30 1", "a plain 8 1") + ";sees a t by 1");
        doubt(rising, 1, 1, 1, 1);
        doubt(rising, 1, 2, 1, 2);
        NorthVines nine = Check.vines(Edge.slope("0 100", "t plain 30 1", "a plain 9 1") + ";sees a t by 1");
        doubt(nine, 1, 1, 1, 1);
        NorthVines ten = Check.vines(Edge.slope("0 100", "t plain 30 1", "a plain 10 1") + ";sees a t by 1");
        doubt(ten, 1, 1, 0, 1);
        // One that stops believing on the DAY itself loses nothing more: 9 then, and 10 by t on the next one.
        NorthVines falling = Check.vines(Edge.slope("0 100", "t plain 30 1", "a plain 10 1") + ";sees a t by 1;rumour a 2 day 0;sign a 1 costs 0 day 1");
        falling.show(0, true);
        doubt(falling, 1, 1, 1, 1);
        doubt(falling, 1, 2, 0, 1);
        NorthVines nought = Check.vines(Edge.slope("0 100", "a plain 0 1"));
        doubt(nought, 0, 6, 1, 1);
    }

    private static void losesThen() {
        Edge.of("III", "loses 1 then.");
        // If it hails on both DAYS, b doubts behind the first, and a, 15 less 5 less 1, behind the second.
        NorthVines x = Check.vines(Edge.slope("0 50", "a plain 16 1", "b plain 10 1") + ";sees a b by 5");
        doubt(x, 0, 1, 0, 1);
        doubt(x, 0, 2, 1, 4);
        doubt(x, 1, 1, 1, 2);
    }

    private static void meanDays() {
        Edge.of("39", "The mean of how many rows believe behind n DAYS (0 .. 6) of HAIL");
        NorthVines x = Check.vines(seven(99, 15));
        mean(x, 0, 7, 1);
        mean(x, 5, 7, 1);
        // 99 to the sixth is 941,480,149,401.
        mean(x, 6, 7 * (MILLION * MILLION - 941_480_149_401L), MILLION * MILLION);
        NorthVines doubting = Check.vines(Edge.slope("0 50", "a plain 9 1", "b plain 10 1"));
        mean(doubting, 0, 1, 1);
        mean(doubting, 1, 1, 2);
    }

    private static void meanLowest() {
        Edge.of("39", "the upper WHOLE or the lower, in lowest terms");
        mean(Check.vines(seven(50, 10)), 1, 7, 2);
        mean(Check.vines(Edge.slope("0 50", "a plain 10 1", "b plain 10 1")), 1, 1, 1);
        mean(Check.vines(Edge.slope("0 20", "a plain 10 1")), 1, 4, 5);
        mean(Check.vines(Edge.slope("0 1", "a plain 10 1")), 1, 99, 100);
        mean(Check.vines(Edge.slope("0 50", "a plain 10 1")), 6, 1, 64);
        mean(Check.vines(seven(0, 10)), 6, 7, 1);
    }

    private static void meanNought() {
        Edge.of("39", "(0 by 1)");
        mean(Check.vines(Edge.slope("0 100", "a plain 10 1")), 1, 0, 1);
        mean(Check.vines(Edge.slope("0 50", "a plain 9 1")), 6, 0, 1);
        mean(Check.vines(Edge.slope("0 50", "a plain 9 1")), 0, 0, 1);
    }

    private static void meanRefused() {
        Edge.of("39", "-1: 1 (no SLOPE); 2.");
        Edge.withoutSlope("mean");
        NorthVines x = Check.vines(Edge.ONE);
        NorthVines none = new NorthVines();
        for (int n : NO_HAIL_DAYS) {
            Check.refused("mean(" + n + ", false)", x, x.mean(n, false), 2);
            Check.refused("mean(" + n + ", true)", x, x.mean(n, true), 2);
            Check.refused("mean(" + n + ", true) without a slope", none, none.mean(n, true), 1);
        }
        Check.due("mean(6, true) is fine", x.mean(6, true) > 0, true);
    }

    private static void allRows() {
        Edge.of("40", "How likely all rows believe then, likewise.");
        NorthVines x = Check.vines(seven(99, 15));
        all(x, 0, 1, 1);
        all(x, 6, MILLION * MILLION - 941_480_149_401L, MILLION * MILLION);
        all(Check.vines(Edge.slope("0 50", "a plain 30 1", "b plain 9 1")), 6, 0, 1);
        all(Check.vines(Edge.slope("0 50", "a plain 9 1", "b plain 30 1")), 0, 0, 1);
        all(Check.vines(Edge.slope("0 50", "a plain 30 1", "b plain 10 1")), 1, 1, 2);
        all(Check.vines(seven(0, 10)), 6, 1, 1);
        all(Check.vines(seven(100, 15)), 5, 1, 1);
        all(Check.vines(seven(100, 15)), 6, 0, 1);
    }

    private static void allRefused() {
        Edge.of("40", "-1: 1 (no SLOPE); 2.");
        Edge.withoutSlope("all");
        NorthVines x = Check.vines(Edge.ONE);
        NorthVines none = new NorthVines();
        for (int n : NO_HAIL_DAYS) {
            Check.refused("all(" + n + ", false)", x, x.all(n, false), 2);
            Check.refused("all(" + n + ", true)", x, x.all(n, true), 2);
            Check.refused("all(" + n + ", true) without a slope", none, none.all(n, true), 1);
        }
        Check.due("all(6, true) is fine", x.all(6, true) > 0, true);
    }

    private static void doubtOne() {
        Edge.of("41", "How likely a row DOUBTS then, likewise.");
        NorthVines x = Check.vines(Edge.slope("0 1", "a plain 15 1", "b plain 9 1", "c plain 16 1"));
        doubt(x, 0, 0, 0, 1);
        doubt(x, 1, 0, 1, 1);
        doubt(x, 0, 5, 0, 1);
        doubt(x, 0, 6, 1, MILLION * MILLION);
        doubt(x, 1, 6, 1, 1);
        doubt(x, 2, 6, 0, 1);
        Check.due("nothing went by", x.size(8), 0);
    }

    private static void doubtRefused() {
        Edge.of("41", "-1: 1; 2.");
        Edge.withoutSlope("doubt");
        NorthVines x = Check.vines(Edge.ONE);
        for (int n : NO_HAIL_DAYS) {
            Check.refused("doubt(1, " + n + ", false)", x, x.doubt(1, n, false), 2);
            Check.refused("doubt(1, " + n + ", true)", x, x.doubt(1, n, true), 2);
            Check.refused("doubt(2, " + n + ", true), 1 comes first", x, x.doubt(2, n, true), 1);
        }
        Check.refused("doubt(2, 0, false)", x, x.doubt(2, 0, false), 1);
        for (int far : Edge.FAR) {
            Check.refused("doubt(" + far + ", 6, true)", x, x.doubt(far, 6, true), 1);
        }
        Check.due("doubt(1, 6, true) is fine", x.doubt(1, 6, true) > 0, true);
    }

    // ---- grafts

    private static void drawn(String what, NorthVines x, int seed, int row) {
        for (int r = 0; r < x.size(2); r++) {
            Check.answered(what + ": grafted(" + r + ", " + seed + ", 1)", x, x.grafted(r, seed, 1), r == row ? 27 : 30);
        }
    }

    private static void drawModRows() {
        Edge.of("III", "GRAFTS by a SEED: ahead of each DAY a DRAW mod rows: that one's FAITH is 3 less");
        NorthVines seven = Check.vines(seven(0, 30));
        drawn("0 becomes 74", seven, 0, 4);
        drawn("1 becomes 149", seven, 1, 2);
        drawn("65536 becomes 65536", seven, 65536, 2);
        drawn("65535 becomes 65461", seven, 65535, 4);
        drawn("45438 becomes 0", seven, 45438, 0);
        drawn("20097 becomes 65535", seven, 20097, 1);
        NorthVines two = Check.vines(Edge.slope("0 0", "a deaf 30 1", "b old 30 1"));
        drawn("0 becomes 74, of two", two, 0, 0);
        drawn("1 becomes 149, of two", two, 1, 1);
        NorthVines one = Check.vines(Edge.slope("0 0", "a new 30 1"));
        drawn("of one", one, 1, 0);
    }

    private static void aheadOfDay() {
        Edge.of("III", "ahead of each DAY");
        // a is 9 when b sees it; then the sign comes.
        NorthVines x = Check.vines(Edge.slope("0 0", "a plain 12 1", "b plain 20 1") + ";sees b a by 4;sign a 5 costs 0 day 0");
        x.show(0, true);
        Check.answered("a", x, x.grafted(0, 0, 1), 14);
        Check.answered("b", x, x.grafted(1, 0, 1), 16);
        Check.answered("a behind none", x, x.grafted(0, 0, 0), 12);
    }

    private static void noughtAtLeast() {
        Edge.of("III", "(0 at least)");
        for (int faith = 0; faith <= 5; faith++) {
            NorthVines x = Check.vines(Edge.slope("0 0", "a plain " + faith + " 1") + ";sign a 5 costs 0 day 0");
            Check.answered("of " + faith, x, x.grafted(0, 0, 1), Math.max(0, faith - 3));
            x.show(0, true);
            Check.answered("of " + faith + ", and then 5", x, x.grafted(0, 0, 1), Math.max(0, faith - 3) + 5);
        }
    }

    private static void seedWraps() {
        Edge.of("III", "(SEED becomes (75 times SEED and 74) mod 65,537)");
        NorthVines seven = Check.vines(seven(0, 30));
        drawn("872 becomes 65474", seven, 872, 3);
        drawn("873 becomes 12", seven, 873, 5);
        // 872 goes on as 60886, 44471, 58549, 270, 20324: of seven 0, 0, 1, 4, 3.
        int[] behind6 = {24, 27, 30, 24, 27, 30, 30};
        for (int r = 0; r < 7; r++) {
            Check.answered("grafted(" + r + ", 872, 6)", seven, seven.grafted(r, 872, 6), behind6[r]);
        }
        // 65536 stays what it is.
        Check.answered("grafted(2, 65536, 9)", seven, seven.grafted(2, 65536, 9), 3);
        Check.answered("grafted(3, 65536, 9)", seven, seven.grafted(3, 65536, 9), 30);
    }

    private static void graftedDays() {
        Edge.of("42", "FAITH of a row behind n DAYS (0 .. 40) with GRAFTS");
        NorthVines x = Check.vines(Edge.slope("0 0", "a plain 30 1") + ";sign a 20 costs 0 day 20");
        Check.answered("0", x, x.grafted(0, 5, 0), 30);
        Check.answered("1", x, x.grafted(0, 5, 1), 27);
        Check.answered("10", x, x.grafted(0, 5, 10), 0);
        Check.answered("40", x, x.grafted(0, 5, 40), 0);
        x.show(0, true);
        Check.answered("20, by the sign", x, x.grafted(0, 5, 20), 0);
        Check.answered("21, by the sign", x, x.grafted(0, 5, 21), 20);
        Check.answered("27, by the sign", x, x.grafted(0, 5, 27), 2);
        Check.due("nothing went by", x.row(0, 1), 30);
        x.day();
        Check.answered("from the next NOW", x, x.grafted(0, 5, 20), 20);
    }

    private static void graftedSeeds() {
        Edge.of("42", "by a SEED (0 .. 65,536).");
        NorthVines x = Check.vines(seven(0, 30));
        Check.answered("0", x, x.grafted(4, 0, 1), 27);
        Check.answered("65,536", x, x.grafted(2, 65536, 1), 27);
        Check.refused("-1", x, x.grafted(4, -1, 1), 2);
        Check.refused("65,537", x, x.grafted(4, 65537, 1), 2);
        Check.refused("65,537, though no DAY needs it", x, x.grafted(4, 65537, 0), 2);
    }

    private static void graftedRefused() {
        Edge.of("42", "NONE: 1; 2.");
        Edge.withoutSlope("grafted");
        NorthVines x = Check.vines(Edge.ONE);
        for (int n : Edge.NO_DAYS) {
            Check.refused("grafted(1, 0, " + n + ")", x, x.grafted(1, 0, n), 2);
            Check.refused("grafted(2, 0, " + n + "), 1 comes first", x, x.grafted(2, 0, n), 1);
        }
        for (int seed : NO_SEEDS) {
            Check.refused("grafted(1, " + seed + ", 40)", x, x.grafted(1, seed, 40), 2);
            Check.refused("grafted(2, " + seed + ", 40), 1 comes first", x, x.grafted(2, seed, 40), 1);
        }
        Check.refused("grafted(2, 0, 0)", x, x.grafted(2, 0, 0), 1);
        for (int far : Edge.FAR) {
            Check.refused("grafted(" + far + ", 65536, 40)", x, x.grafted(far, 65536, 40), 1);
        }
    }

    private static void graftDoubters() {
        Edge.of("43", "Who DOUBTS then, as bits.");
        NorthVines x = Check.vines(seven(0, 12));
        Check.answered("none behind 0", x, x.graftDoubters(0, 0), 0);
        Check.answered("the one drawn", x, x.graftDoubters(0, 1), 16);
        Check.answered("by 65536", x, x.graftDoubters(65536, 40), 4);
        // 872 draws 3, 0, 0, 1, 4, 3.
        Check.answered("by 872", x, x.graftDoubters(872, 6), 8 + 1 + 2 + 16);
        NorthVines all = Check.vines(seven(0, 9));
        Check.answered("all, behind 0", all, all.graftDoubters(0, 0), 127);
        Check.answered("all, behind 40", all, all.graftDoubters(65536, 40), 127);
    }

    private static void graftDoubtersRefused() {
        Edge.of("43", "NONE: 1 (no SLOPE); 2.");
        Edge.withoutSlope("graftDoubters");
        NorthVines x = Check.vines(Edge.ONE);
        NorthVines none = new NorthVines();
        for (int n : Edge.NO_DAYS) {
            Check.refused("graftDoubters(0, " + n + ")", x, x.graftDoubters(0, n), 2);
            Check.refused("graftDoubters(0, " + n + ") without a slope", none, none.graftDoubters(0, n), 1);
        }
        for (int seed : NO_SEEDS) {
            Check.refused("graftDoubters(" + seed + ", 40)", x, x.graftDoubters(seed, 40), 2);
            Check.refused("graftDoubters(" + seed + ", 0)", x, x.graftDoubters(seed, 0), 2);
            Check.refused("graftDoubters(" + seed + ", 0) without a slope", none, none.graftDoubters(seed, 0), 1);
        }
    }

    // z is drawn ahead of each DAY and raised by 2: it doubts when f sees it on the 19th DAY, and f falls by 1 a DAY
    // from then on, so that it would be 9 behind 39; each that the sign tells is a DAY more.
    private static String falling(int tells) {
        return Edge.slope("0 0", "z plain 30 1", "f plain 30 1", "t plain 30 1", "u plain 30 1")
                + ";sees z t by 1;sees z u by 1;sees f z by 1;sign f " + tells + " costs 0 day 20";
    }

    private static void graftWhenFirst() {
        Edge.of("44", "Behind which of them (1, 2, ..) a row DOUBTS first;");
        NorthVines x = Check.vines(Edge.slope("0 0", "a plain 12 1"));
        Check.answered("1", x, x.graftWhen(0, 0, 1), 1);
        Check.answered("1 of 40", x, x.graftWhen(0, 0, 40), 1);
        NorthVines y = Check.vines(Edge.slope("0 0", "a plain 13 1"));
        Check.answered("2", y, y.graftWhen(0, 0, 40), 2);
        NorthVines now = Check.vines(Edge.slope("0 0", "a plain 9 1"));
        Check.answered("one that doubts NOW", now, now.graftWhen(0, 0, 40), 1);
        NorthVines raised = Check.vines(Edge.slope("0 0", "a plain 9 1") + ";sign a 20 costs 0 day 0");
        raised.show(0, true);
        // 26, 23, 20, 17, 14, 11, 8.
        Check.answered("one that doubts NOW, but not behind 1", raised, raised.graftWhen(0, 0, 40), 7);
        NorthVines late = Check.vines(falling(1));
        Check.answered("39, without the sign", late, late.graftWhen(1, 65536, 40), 39);
        late.show(0, true);
        Check.answered("40", late, late.graftWhen(1, 65536, 40), 40);
    }

    private static void graftWhenNone() {
        Edge.of("44", "0 behind none.");
        NorthVines x = Check.vines(Edge.slope("0 0", "a plain 12 1"));
        Check.answered("no DAY", x, x.graftWhen(0, 0, 0), 0);
        NorthVines now = Check.vines(Edge.slope("0 0", "a plain 9 1"));
        Check.answered("no DAY, though it doubts NOW", now, now.graftWhen(0, 0, 0), 0);
        NorthVines late = Check.vines(falling(2));
        Check.answered("38 of 39", late, late.graftWhen(1, 65536, 38), 0);
        late.show(0, true);
        Check.answered("41 isn't asked for", late, late.graftWhen(1, 65536, 40), 0);
        Check.answered("never drawn", late, late.graftWhen(2, 65536, 40), 0);
    }

    private static void graftWhenRefused() {
        Edge.of("44", "NONE: 1; 2.");
        Edge.withoutSlope("graftWhen");
        NorthVines x = Check.vines(Edge.ONE);
        for (int n : Edge.NO_DAYS) {
            Check.refused("graftWhen(1, 0, " + n + ")", x, x.graftWhen(1, 0, n), 2);
            Check.refused("graftWhen(2, 0, " + n + "), 1 comes first", x, x.graftWhen(2, 0, n), 1);
        }
        for (int seed : NO_SEEDS) {
            Check.refused("graftWhen(1, " + seed + ", 40)", x, x.graftWhen(1, seed, 40), 2);
            Check.refused("graftWhen(2, " + seed + ", 40), 1 comes first", x, x.graftWhen(2, seed, 40), 1);
        }
        Check.refused("graftWhen(2, 0, 0)", x, x.graftWhen(2, 0, 0), 1);
        for (int far : Edge.FAR) {
            Check.refused("graftWhen(" + far + ", 65536, 40)", x, x.graftWhen(far, 65536, 40), 1);
        }
    }
}
