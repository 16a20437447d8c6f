/** Promises 21 to 27: the fewest coins for signs and for walls. */
public final class ChoiceTest {
    private static final String SIGNS = "slope bears 5 hail 0;row a plain faith 8 grapes 20;row b plain faith 12 grapes 9"
            + ";sign a 2 costs 5 day 0;sign a 1 costs 2 day 0;sign a 1 costs 3 day 0;sign b 1 costs 0 day 0"
            + ";sign a 2 costs 5 day 1";
    // Behind a day z and y believe, by t; a sees them doubt before.
    private static final String WALLS = "slope bears 5 hail 0;row a plain faith 13 grapes 1;row z plain faith 9 grapes 1"
            + ";row y plain faith 9 grapes 1;row t plain faith 30 grapes 1;sees z t by 1;sees y t by 1"
            + ";sees a z by 2;sees a y by 2;sees a t by 9";

    public static void main(String[] args) {
        feign();
        dearerInFront();
        bestSign();
        walls();
        cut();
        refusals();
        Check.end("ChoiceTest");
    }

    private static void feign() {
        NorthVines x = Check.vines(SIGNS);
        Check.answered("feign(0)", x, x.feign(0), -2);
        Check.answered("feignSigns(0)", x, x.feignSigns(0), -2);
        Check.answered("feign(1)", x, x.feign(1), 5);
        Check.answered("feignSigns(1): fewest of like coins", x, x.feignSigns(1), 1);
        Check.answered("feign(2)", x, x.feign(2), 5);
        Check.answered("feignSigns(2): least bits of like numbers", x, x.feignSigns(2), 1);
        Check.answered("feign(40)", x, x.feign(40), 5);
        Check.answered("feignFor(0, 1)", x, x.feignFor(0, 1), 5);
        Check.answered("feignFor(0, 0)", x, x.feignFor(0, 0), -2);
        Check.answered("feignFor(1, 0)", x, x.feignFor(1, 0), 0);
        Check.answered("feignFor(1, 40)", x, x.feignFor(1, 40), 0);
        Check.due("nothing is shown by it", x.spent(), 0);
        x.show(1, true);
        Check.due("with one shown: feign(1)", x.feign(1), 3);
        Check.due("with one shown: feignSigns(1)", x.feignSigns(1), 4);
        Check.due("with one shown: feignFor(0, 1)", x.feignFor(0, 1), 3);
        x.show(0, true);
        Check.due("with all it needs: feign(1)", x.feign(1), 0);
        Check.due("with all it needs: feignSigns(1)", x.feignSigns(1), 0);
        x.show(0, false);
        x.show(1, false);
        x.day();
        Check.due("too late for all but one: feign(1)", x.feign(1), 5);
        Check.due("too late for all but one: feignSigns(1)", x.feignSigns(1), 16);
        x.day();
        Check.due("too late: feign(1)", x.feign(1), -2);
        Check.due("too late: feignFor(0, 9)", x.feignFor(0, 9), -2);
        Check.due("too late: feignFor(1, 9)", x.feignFor(1, 9), 0);
    }

    private static void dearerInFront() {
        NorthVines x = Check.vines(SIGNS + ";sign a 3 costs 4 day 0");
        Check.due("feign(1)", x.feign(1), 4);
        Check.due("feignSigns(1)", x.feignSigns(1), 32);
        NorthVines y = Check.vines("slope bears 5 hail 0;row a plain faith 8 grapes 20"
                + ";sign a 2 costs 9 day 0;sign a 1 costs 4 day 0;sign a 1 costs 4 day 0;sign a 1 costs 4 day 0");
        Check.due("two cheap ones: feign(1)", y.feign(1), 8);
        Check.due("two cheap ones: feignSigns(1)", y.feignSigns(1), 6);
        String two = "slope bears 5 hail 0;row a plain faith 8 grapes 20;sign a 1 costs 4 day 0;sign a 1 costs 4 day 0";
        NorthVines dear = Check.vines(two + ";sign a 2 costs 9 day 0");
        Check.due("a dear one behind: feign(1)", dear.feign(1), 8);
        Check.due("a dear one behind: feignSigns(1)", dear.feignSigns(1), 3);
        NorthVines like = Check.vines(two + ";sign a 2 costs 8 day 0");
        Check.due("one for as much behind: feign(1)", like.feign(1), 8);
        Check.due("one for as much behind: feignSigns(1)", like.feignSigns(1), 4);
        NorthVines every = Check.vines(two);
        Check.due("all of them: feign(1)", every.feign(1), 8);
        Check.due("all of them: feignSigns(1)", every.feignSigns(1), 3);
        NorthVines free = Check.vines("slope bears 5 hail 0;row a plain faith 8 grapes 20;sign a 1 costs 0 day 0"
                + ";sign a 1 costs 0 day 0;sign a 2 costs 0 day 0");
        Check.due("for nothing: feign(1)", free.feign(1), 0);
        Check.due("for nothing: feignSigns(1)", free.feignSigns(1), 4);
    }

    private static void bestSign() {
        NorthVines x = Check.vines(SIGNS);
        Check.answered("bestSign(0)", x, x.bestSign(0), -2);
        Check.answered("bestSign(1)", x, x.bestSign(1), 0);
        Check.answered("bestSign(2)", x, x.bestSign(2), 0);
        x.show(0, true);
        Check.answered("none brings more", x, x.bestSign(40), -2);
        x.show(0, false);
        x.show(1, true);
        Check.due("with one shown, the first of like ones", x.bestSign(1), 0);
        x.show(1, false);
        x.day();
        Check.due("behind a day", x.bestSign(3), 4);
        NorthVines y = Check.vines("slope bears 5 hail 0;row a plain faith 8 grapes 20;row b plain faith 8 grapes 21"
                + ";row c plain faith 8 grapes 21;sign a 2 costs 0 day 0;sign b 2 costs 99 day 0;sign c 2 costs 0 day 0");
        Check.due("most more, the first of like ones", y.bestSign(3), 1);
        // The sign does nothing; a wall would, but it isn't up.
        NorthVines walled = Check.vines("slope bears 5 hail 0;row a plain faith 10 grapes 20;row z plain faith 0 grapes 20"
                + ";sees a z by 1;wall a z costs 0;sign a 1 costs 0 day 9");
        Check.due("walls stay as now", walled.bestSign(3), -2);
    }

    private static void walls() {
        NorthVines x = Check.vines(WALLS + ";wall a z costs 5;wall a y costs 3;wall z t costs 0");
        // a: 13, less 4, and 1, is 10: it needs no wall.
        Check.answered("walls(1)", x, x.walls(1), 0);
        Check.answered("wallsUp(1)", x, x.wallsUp(1), 0);
        Check.answered("walls(0)", x, x.walls(0), -2);
        Check.answered("wallsUp(0)", x, x.wallsUp(0), -2);
        NorthVines y = Check.vines(WALLS + ";rumour a 1 day 0;wall a z costs 5;wall a y costs 3;wall z t costs 0");
        Check.answered("cheaper: walls(1)", y, y.walls(1), 3);
        Check.answered("cheaper: wallsUp(1)", y, y.wallsUp(1), 2);
        y.put(1, true);
        Check.due("up now: walls(1)", y.walls(1), 0);
        Check.due("up now: wallsUp(1)", y.wallsUp(1), 0);
        y.put(1, false);
        y.put(2, true);
        Check.due("z never believes: walls(1)", y.walls(1), -2);
        Check.due("z never believes: wallsUp(1)", y.wallsUp(1), -2);
        NorthVines like = Check.vines(WALLS + ";rumour a 1 day 0;wall a t costs 0;wall a y costs 5;wall a z costs 5");
        Check.due("like coins: walls(1)", like.walls(1), 5);
        Check.due("like coins, least bits: wallsUp(1)", like.wallsUp(1), 2);
        NorthVines both = Check.vines(WALLS + ";rumour a 4 day 0;wall a y costs 5;wall a z costs 7;wall a t costs 0");
        Check.due("both: walls(1)", both.walls(1), 12);
        Check.due("both: wallsUp(1)", both.wallsUp(1), 3);
        Check.due("nothing is put up by it", both.spent(), 0);
    }

    private static void cut() {
        String text = "slope bears 5 hail 0;row a plain faith 13 grapes 1;row b plain faith 9 grapes 1"
                + ";row c plain faith 9 grapes 1;row d plain faith 9 grapes 1;sees a b by 1;sees c b by 1;sees d c by 1"
                + ";sees b a by 1;wall a b costs 99;wall d c costs 1;wall c b costs 99";
        NorthVines x = Check.vines(text);
        Check.answered("cut(1)", x, x.cut(1), 5);
        Check.answered("cut(2)", x, x.cut(2), 2);
        Check.answered("cut(3), which nobody sees", x, x.cut(3), 0);
        Check.answered("cut(0) can't be", x, x.cut(0), -2);
        x.put(0, true);
        Check.answered("cut(1) with one up", x, x.cut(1), 4);
        x.put(2, true);
        Check.answered("cut(1) with both up", x, x.cut(1), 0);
        Check.answered("cut(0) still can't be", x, x.cut(0), -2);
    }

    private static void refusals() {
        NorthVines x = Check.vines(SIGNS);
        for (int wrong : new int[] {-1, 41, Integer.MIN_VALUE, Integer.MAX_VALUE}) {
            Check.refused("feign(" + wrong + ")", x, x.feign(wrong), 2);
            Check.refused("feignSigns(" + wrong + ")", x, x.feignSigns(wrong), 2);
            Check.refused("feignFor(0, " + wrong + ")", x, x.feignFor(0, wrong), 2);
            Check.refused("feignFor(2, " + wrong + ")", x, x.feignFor(2, wrong), 1);
            Check.refused("bestSign(" + wrong + ")", x, x.bestSign(wrong), 2);
            Check.refused("walls(" + wrong + ")", x, x.walls(wrong), 2);
            Check.refused("wallsUp(" + wrong + ")", x, x.wallsUp(wrong), 2);
        }
        for (int wrong : new int[] {-1, 2, Integer.MIN_VALUE, Integer.MAX_VALUE}) {
            Check.refused("feignFor(" + wrong + ", 0)", x, x.feignFor(wrong, 0), 1);
            Check.refused("cut(" + wrong + ")", x, x.cut(wrong), 1);
        }
        NorthVines none = new NorthVines();
        Check.refused("feign", none, none.feign(99), 1);
        Check.refused("feignSigns", none, none.feignSigns(99), 1);
        Check.refused("feignFor", none, none.feignFor(0, 99), 1);
        Check.refused("bestSign", none, none.bestSign(99), 1);
        Check.refused("walls", none, none.walls(99), 1);
        Check.refused("wallsUp", none, none.wallsUp(99), 1);
        Check.refused("cut", none, none.cut(0), 1);
    }
}
