/** Promises 28 to 34: which rumours there were by what was seen. */
public final class SourceTest {
    private static final String TEXT = "slope bears 5 hail 0;row a plain faith 12 grapes 1;row b plain faith 10 grapes 1"
            + ";sign a 5 costs 0 day 0;rumour a 3 day 0;rumour a 3 day 1;rumour b 1 day 0";

    public static void main(String[] args) {
        someFit();
        twoFit();
        eitherFits();
        noneFits();
        fromTheBeginning();
        nothingSeen();
        walls();
        judge();
        latestDay();
        refusals();
        Check.end("SourceTest");
    }

    private static void source(NorthVines x, int... sets) {
        Check.answered("sets()", x, x.sets(), sets.length);
        int some = 0;
        int every = sets.length == 0 ? 0 : -1;
        for (int i = 0; i < sets.length; i++) {
            Check.answered("setAt(" + i + ")", x, x.setAt(i), sets[i]);
            some |= sets[i];
            every &= sets[i];
        }
        for (int wrong : new int[] {-1, sets.length, Integer.MIN_VALUE, Integer.MAX_VALUE}) {
            Check.refused("setAt(" + wrong + ")", x, x.setAt(wrong), 1);
        }
        Check.answered("could()", x, x.could(), some);
        Check.answered("surely()", x, x.surely(), every);
    }

    private static void look(NorthVines x, int place, int leaves) {
        Check.answered("look()", x, x.look(), place);
        Check.answered("lookLeaves()", x, x.lookLeaves(), leaves);
    }

    private static void someFit() {
        NorthVines x = Check.vines(TEXT + ";doubted a day 1");
        source(x, 1, 2, 3, 5, 6, 7);
        // Looking at a leaves 4 at best, at b 3.
        look(x, 100, 3);
    }

    private static void twoFit() {
        NorthVines x = Check.vines(TEXT + ";doubted a day 1;believed a day 0");
        source(x, 2, 6);
        look(x, 100, 1);
        NorthVines y = Check.vines(TEXT + ";believed b day 9;doubted a day 20;believed a day 0");
        source(y, 2);
        look(y, 0, 1);
    }

    private static void eitherFits() {
        // By t row a has 13, less 3 for each of the first two; then 1 more, less 2 by the third.
        NorthVines x = Check.vines("slope bears 5 hail 0;row t plain faith 30 grapes 1;row a plain faith 12 grapes 1"
                + ";sees a t by 1;rumour a 3 day 0;rumour a 3 day 0;rumour a 2 day 1;believed a day 0;doubted a day 1");
        source(x, 5, 6);
        look(x, 0, 2);
        NorthVines seven = Check.vines("slope bears 5 hail 0;row a plain faith 12 grapes 1;row b plain faith 12 grapes 1"
                + ";row c plain faith 12 grapes 1;row d plain faith 12 grapes 1;row e plain faith 12 grapes 1"
                + ";row f plain faith 12 grapes 1;row g plain faith 12 grapes 1;rumour g 3 day 19");
        source(seven, 0, 1);
        look(seven, 619, 1);
    }

    private static void noneFits() {
        NorthVines x = Check.vines(TEXT + ";doubted a day 0;believed a day 1");
        source(x);
        look(x, -2, -2);
    }

    private static void fromTheBeginning() {
        NorthVines x = Check.vines(TEXT + ";doubted a day 1");
        x.day();
        x.day();
        source(x, 1, 2, 3, 5, 6, 7);
        x.show(0, true);
        // With the sign a has 17, and 11 by both rumours.
        source(x);
        Check.due("judge()", x.judge(), 0);
        x.show(0, false);
        Check.due("judge() without the sign", x.judge(), -2);
    }

    private static void nothingSeen() {
        NorthVines x = Check.vines(TEXT);
        source(x, 0, 1, 2, 3, 4, 5, 6, 7);
        // Row a behind day 0 parts them in halves already.
        look(x, 0, 4);
        NorthVines y = Check.vines("slope bears 5 hail 0;row a deaf faith 12 grapes 1;rumour a 20 day 0");
        source(y, 0, 1);
        look(y, 0, 2);
        NorthVines five = Check.vines("slope bears 5 hail 0;row a deaf faith 12 grapes 1;row b deaf faith 1 grapes 1"
                + ";rumour a 20 day 0;rumour a 20 day 0;rumour a 20 day 0;rumour a 20 day 0;rumour a 20 day 0");
        int[] all = new int[32];
        for (int i = 0; i < all.length; i++) {
            all[i] = i;
        }
        source(five, all);
        look(five, 0, 32);
        NorthVines none = Check.vines("slope bears 5 hail 0;row a deaf faith 12 grapes 1");
        source(none, 0);
        look(none, 0, 1);
    }

    private static void walls() {
        NorthVines x = Check.vines("slope bears 5 hail 0;row a plain faith 12 grapes 1;row b plain faith 10 grapes 1"
                + ";sees b a by 1;wall b a costs 1;rumour a 3 day 2;doubted b day 3");
        // b is raised by a up to 12 behind day 1, so that it believes still behind day 3.
        source(x);
        Check.due("judge()", x.judge(), 0);
        NorthVines y = Check.vines("slope bears 5 hail 0;row a plain faith 12 grapes 1;row b plain faith 10 grapes 1"
                + ";sees b a by 9;wall b a costs 1;rumour a 3 day 2;doubted b day 3");
        source(y, 1);
        y.put(0, true);
        source(y);
    }

    private static void judge() {
        NorthVines x = Check.vines(TEXT + ";doubted a day 1;believed b day 0;believed a day 3");
        Check.answered("judge(), the first as told", x, x.judge(), 1);
        NorthVines y = Check.vines(TEXT + ";doubted a day 1;doubted b day 0;doubted a day 0");
        Check.answered("judge() where all is so", y, y.judge(), -2);
        NorthVines none = Check.vines(TEXT);
        Check.answered("judge() with nothing seen", none, none.judge(), -2);
    }

    private static void latestDay() {
        NorthVines x = Check.vines("slope bears 5 hail 0;row a plain faith 12 grapes 1;rumour a 3 day 20");
        look(x, 20, 1);
        NorthVines y = Check.vines("slope bears 5 hail 0;row a plain faith 12 grapes 1;rumour a 3 day 20;doubted a day 20");
        source(y, 1);
        NorthVines z = Check.vines("slope bears 5 hail 0;row a plain faith 12 grapes 1;rumour a 3 day 20;doubted a day 19");
        source(z);
    }

    private static void refusals() {
        NorthVines x = new NorthVines();
        Check.refused("sets", x, x.sets(), 1);
        Check.refused("setAt", x, x.setAt(0), 1);
        Check.refused("could", x, x.could(), 1);
        Check.refused("surely", x, x.surely(), 1);
        Check.refused("look", x, x.look(), 1);
        Check.refused("lookLeaves", x, x.lookLeaves(), 1);
        Check.refused("judge", x, x.judge(), 1);
    }
}
