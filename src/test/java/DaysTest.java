/** Promises 13 to 20: days that go by from now. */
public final class DaysTest {
    // By hand, faith of a and b behind 0, 1, .. days: 12 20, 13 20, 8 20, 9 15, 10 10, and so on.
    private static final String TWO = "slope bears 3 hail 50;row a plain faith 12 grapes 10;row b plain faith 20 grapes 2"
            + ";sees a b by 4;sees b a by 5;rumour a 6 day 1";

    public static void main(String[] args) {
        two();
        rumours();
        signs();
        sight();
        bounds();
        firstOfLike();
        farAhead();
        reach();
        refusals();
        Check.end("DaysTest");
    }

    private static void two() {
        NorthVines x = Check.vines(TWO);
        int[] a = {12, 13, 8, 9, 10, 10};
        int[] b = {20, 20, 20, 15, 10, 10};
        for (int n = 0; n < a.length; n++) {
            Check.answered("faithIn(0, " + n + ")", x, x.faithIn(0, n), a[n]);
            Check.answered("faithIn(1, " + n + ")", x, x.faithIn(1, n), b[n]);
            Check.answered("doubtersIn(" + n + ")", x, x.doubtersIn(n), a[n] < 10 ? 1 : 0);
        }
        Check.due("faithIn(0, 40)", x.faithIn(0, 40), 10);
        Check.answered("when(0)", x, x.when(0), 2);
        Check.answered("when(1)", x, x.when(1), -2);
        Check.answered("first()", x, x.first(), 0);
        Check.answered("worstDay()", x, x.worstDay(), 2);
        Check.answered("still()", x, x.still(), 4);
        int[] harvests = {0, 12, 17, 22, 34, 46};
        for (int n = 0; n < harvests.length; n++) {
            Check.answered("harvest(" + n + ")", x, x.harvest(n), harvests[n]);
        }
        Check.due("harvest(40)", x.harvest(40), 22 + 37 * 12);
        Check.due("nothing went by", x.size(8), 0);
        x.day();
        x.day();
        Check.due("from now: when(0)", x.when(0), 0);
        Check.due("from now: faithIn(1, 1)", x.faithIn(1, 1), 15);
        Check.due("from now: still()", x.still(), 2);
        Check.due("from now: worstDay()", x.worstDay(), 0);
        Check.due("from now: harvest(1)", x.harvest(1), 5);
    }

    private static void rumours() {
        NorthVines x = Check.vines("slope bears 3 hail 0;row p plain faith 20 grapes 1;row o old faith 20 grapes 1"
                + ";row n new faith 20 grapes 1;row d deaf faith 20 grapes 1"
                + ";rumour p 5 day 0;rumour o 5 day 0;rumour n 5 day 0;rumour d 5 day 0;rumour o 3 day 0");
        Check.due("plain", x.faithIn(0, 1), 15);
        Check.due("old, each halved downwards", x.faithIn(1, 1), 17);
        Check.due("new", x.faithIn(2, 1), 10);
        Check.due("deaf", x.faithIn(3, 1), 20);
        Check.due("only once", x.faithIn(2, 2), 10);
        NorthVines late = Check.vines("slope bears 3 hail 0;row p plain faith 20 grapes 1;rumour p 11 day 20");
        Check.due("day 19", late.faithIn(0, 20), 20);
        Check.due("day 20", late.faithIn(0, 21), 9);
        Check.due("when(0)", late.when(0), 21);
        Check.due("still() at once, though one comes later", late.still(), 0);
    }

    private static void signs() {
        NorthVines x = Check.vines("slope bears 3 hail 0;row p plain faith 9 grapes 1;row d deaf faith 9 grapes 1"
                + ";row o old faith 9 grapes 1;row n new faith 9 grapes 1"
                + ";sign p 5 costs 0 day 1;sign d 5 costs 0 day 1;sign o 5 costs 0 day 1;sign n 5 costs 0 day 1"
                + ";sign p 2 costs 0 day 1;sign p 20 costs 0 day 0");
        Check.due("none shown", x.faithIn(0, 3), 9);
        for (int k = 0; k < 5; k++) {
            x.show(k, true);
        }
        Check.due("not yet", x.faithIn(0, 1), 9);
        Check.due("both to plain", x.faithIn(0, 2), 16);
        Check.due("deaf", x.faithIn(1, 2), 9);
        Check.due("old", x.faithIn(2, 2), 14);
        Check.due("new", x.faithIn(3, 2), 14);
        x.day();
        x.show(5, true);
        Check.due("too late", x.faithIn(0, 5), 16);
        x.show(0, false);
        Check.due("not shown any more", x.faithIn(0, 5), 11);
    }

    private static void sight() {
        String rows = "slope bears 3 hail 0;row p plain faith 20 grapes 1;row o old faith 20 grapes 1"
                + ";row d deaf faith 20 grapes 1;row x plain faith 3 grapes 1;row y plain faith 9 grapes 1"
                + ";row t plain faith 21 grapes 1";
        NorthVines x = Check.vines(rows + ";sees p x by 3;sees p y by 4;sees o x by 3;sees o y by 4;sees d x by 9"
                + ";sees p t by 9;sees o t by 9;wall o y costs 0;wall p t costs 0;wall p x costs 0");
        Check.due("plain: less 7, and 1", x.faithIn(0, 1), 14);
        Check.due("old: less 3, and 1", x.faithIn(1, 1), 18);
        Check.due("deaf sees", x.faithIn(2, 1), 11);
        x.put(0, true);
        Check.due("old, one of them behind a wall: less 1, and 1", x.faithIn(1, 1), 20);
        x.put(1, true);
        Check.due("plain, the higher one behind a wall", x.faithIn(0, 1), 13);
        x.put(2, true);
        Check.due("plain, a doubter behind a wall too", x.faithIn(0, 1), 16);
        NorthVines doubtersHigher = Check.vines("slope bears 3 hail 0;row a plain faith 2 grapes 1"
                + ";row b plain faith 9 grapes 1;sees a b by 1");
        Check.due("one that doubts doesn't raise", doubtersHigher.faithIn(0, 1), 1);
        NorthVines like = Check.vines("slope bears 3 hail 0;row a plain faith 15 grapes 1"
                + ";row b plain faith 15 grapes 1;sees a b by 1");
        Check.due("as much faith doesn't raise", like.faithIn(0, 1), 15);
    }

    private static void bounds() {
        NorthVines x = Check.vines("slope bears 3 hail 0;row a plain faith 30 grapes 1;row b plain faith 29 grapes 1"
                + ";row c plain faith 2 grapes 1;sees b a by 1;sees c b by 1;sign a 20 costs 1 day 0;sign b 1 costs 1 day 0"
                + ";rumour c 5 day 0;rumour a 20 day 0");
        x.show(0, true);
        x.show(1, true);
        Check.due("cut off only in the end: 30 and 20 less 20", x.faithIn(0, 1), 30);
        Check.due("30 at most", x.faithIn(1, 1), 30);
        Check.due("0 at least", x.faithIn(2, 1), 0);
        Check.due("all at once", x.faithIn(2, 2), 1);
    }

    private static void firstOfLike() {
        NorthVines x = Check.vines("slope bears 3 hail 0;row a plain faith 20 grapes 1;row b plain faith 12 grapes 1"
                + ";row c plain faith 12 grapes 1;rumour c 3 day 2;rumour b 3 day 2;rumour a 20 day 3");
        Check.due("first() of like ones", x.first(), 1);
        Check.due("worstDay()", x.worstDay(), 4);
        Check.due("when(0)", x.when(0), 4);
        Check.due("when(2)", x.when(2), 3);
        NorthVines y = Check.vines("slope bears 3 hail 0;row a plain faith 20 grapes 1;row b plain faith 9 grapes 1");
        Check.due("first() now", y.first(), 1);
        Check.due("worstDay() of like ones", y.worstDay(), 0);
    }

    private static void farAhead() {
        NorthVines x = Check.vines("slope bears 0 hail 0;row a plain faith 30 grapes 1;row z plain faith 0 grapes 1"
                + ";row b old faith 30 grapes 1;sees a z by 1;sees b z by 1");
        Check.due("when(0)", x.when(0), 21);
        Check.due("still()", x.still(), 30);
        Check.due("faithIn(0, 29)", x.faithIn(0, 29), 1);
        Check.due("old: half of 1 is 0", x.faithIn(2, 40), 30);
        // a is 30 behind 30 days; b begins to rise behind 10 days, and c behind 20.
        String rising = "slope bears 0 hail 0;row t plain faith 30 grapes 1;row a plain faith 0 grapes 1"
                + ";row b plain faith 0 grapes 1;sees a t by 1;sees b a by 1";
        NorthVines forty = Check.vines(rising);
        Check.due("faithIn(1, 9)", forty.faithIn(1, 9), 9);
        Check.due("faithIn(2, 10)", forty.faithIn(2, 10), 0);
        Check.due("faithIn(2, 39)", forty.faithIn(2, 39), 29);
        Check.due("still() at 40", forty.still(), 40);
        NorthVines beyond = Check.vines(rising + ";row c plain faith 0 grapes 1;sees c b by 1");
        Check.due("still() beyond 40", beyond.still(), -2);
        Check.due("faithIn(3, 40)", beyond.faithIn(3, 40), 20);
        // z doubts behind the day of its rumour, and f falls by 1 a day from then on.
        String falling = "slope bears 0 hail 0;row f plain faith 30 grapes 1;row z plain faith 10 grapes 1;sees f z by 1";
        NorthVines at40 = Check.vines(falling + ";rumour z 1 day 18");
        Check.due("when(0) at 40", at40.when(0), 40);
        Check.due("worstDay() at 40", at40.worstDay(), 40);
        NorthVines at41 = Check.vines(falling + ";rumour z 1 day 19");
        Check.due("when(0) beyond 40", at41.when(0), -2);
        Check.due("first()", at41.first(), 1);
        Check.due("worstDay() before 41", at41.worstDay(), 20);
        Check.due("doubtersIn(40)", at41.doubtersIn(40), 2);
        NorthVines none = Check.vines("slope bears 0 hail 0;row a plain faith 30 grapes 1");
        Check.due("first() of none", none.first(), -2);
    }

    private static void reach() {
        NorthVines x = Check.vines("slope bears 0 hail 0;row a plain faith 10 grapes 1;row b plain faith 10 grapes 1"
                + ";row c plain faith 10 grapes 1;row d plain faith 10 grapes 1;row e plain faith 10 grapes 1"
                + ";sees e d by 1;sees d c by 1;sees c b by 1;sees b a by 1;sees a b by 1;wall c b costs 1");
        Check.answered("reach(0) through a chain", x, x.reach(0), 31);
        Check.answered("reach(2)", x, x.reach(2), 28);
        Check.answered("reach(4)", x, x.reach(4), 16);
        x.put(0, true);
        Check.due("reach(0) by a wall", x.reach(0), 3);
        Check.due("reach(2) by a wall", x.reach(2), 28);
        NorthVines y = Check.vines("slope bears 0 hail 0;row a plain faith 10 grapes 1;row b plain faith 10 grapes 1"
                + ";row c plain faith 10 grapes 1;row d plain faith 10 grapes 1;sees b a by 1;sees c a by 1;sees d b by 1"
                + ";sees d c by 1");
        Check.due("reach(0) by two ways", y.reach(0), 15);
    }

    private static void refusals() {
        NorthVines x = Check.vines(TWO);
        for (int wrong : new int[] {-1, 41, Integer.MIN_VALUE, Integer.MAX_VALUE}) {
            Check.refused("faithIn(0, " + wrong + ")", x, x.faithIn(0, wrong), 2);
            Check.refused("doubtersIn(" + wrong + ")", x, x.doubtersIn(wrong), 2);
            Check.refused("harvest(" + wrong + ")", x, x.harvest(wrong), 2);
            Check.refused("faithIn(2, " + wrong + ")", x, x.faithIn(2, wrong), 1);
        }
        for (int wrong : new int[] {-1, 2, 7, Integer.MIN_VALUE, Integer.MAX_VALUE}) {
            Check.refused("faithIn(" + wrong + ", 0)", x, x.faithIn(wrong, 0), 1);
            Check.refused("when(" + wrong + ")", x, x.when(wrong), 1);
            Check.refused("reach(" + wrong + ")", x, x.reach(wrong), 1);
        }
        NorthVines none = new NorthVines();
        Check.refused("faithIn", none, none.faithIn(0, 99), 1);
        Check.refused("doubtersIn", none, none.doubtersIn(99), 1);
        Check.refused("when", none, none.when(0), 1);
        Check.refused("first", none, none.first(), 1);
        Check.refused("worstDay", none, none.worstDay(), 1);
        Check.refused("still", none, none.still(), 1);
        Check.refused("harvest", none, none.harvest(99), 1);
        Check.refused("reach", none, none.reach(0), 1);
    }
}
