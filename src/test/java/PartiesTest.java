/** Promises 35 to 38: to whom it may be told; two parties who take signs by turns. */
public final class PartiesTest {
    public static void main(String[] args) {
        tell();
        twoSigns();
        threeSigns();
        oneThatMatters();
        passing();
        refusals();
        Check.end("PartiesTest");
    }

    private static void tell() {
        NorthVines x = Check.vines("slope bears 5 hail 0;row c plain faith 15 grapes 1;row b plain faith 15 grapes 1"
                + ";row a plain faith 15 grapes 1;sees b a by 9;sees c b by 9;wall b a costs 1;wall c b costs 1");
        Check.answered("tell(0)", x, x.tell(0), 0);
        Check.answered("tellMost(0)", x, x.tellMost(0), 1);
        Check.answered("tell(1)", x, x.tell(1), 1);
        Check.answered("tellMost(1)", x, x.tellMost(1), 2);
        Check.answered("tell(2)", x, x.tell(2), 2);
        Check.answered("tellMost(2)", x, x.tellMost(2), 3);
        Check.answered("tell(40)", x, x.tell(40), 2);
        Check.due("nobody was told", x.doubters(), 0);
        x.put(0, true);
        Check.due("by a wall: tell(2)", x.tell(2), 1);
        Check.due("by a wall: tellMost(2)", x.tellMost(2), 2);
        x.put(1, true);
        Check.due("by both walls: tell(2)", x.tell(2), 0);
        Check.due("by both walls: tellMost(2)", x.tellMost(2), 1);
        NorthVines alone = Check.vines("slope bears 5 hail 0;row a plain faith 15 grapes 1;sign a 20 costs 0 day 0");
        Check.due("one row: tell(1)", alone.tell(1), 0);
        Check.due("one row: tellMost(1)", alone.tellMost(1), 1);
        alone.show(0, true);
        Check.due("nobody doubts by it: tell(1)", alone.tell(1), 0);
        Check.due("nobody doubts by it: tellMost(1)", alone.tellMost(1), 0);
    }

    private static void play(NorthVines x, int n, int value, int take) {
        Check.answered("value(" + n + ")", x, x.value(n), value);
        Check.answered("take(" + n + ")", x, x.take(n), take);
    }

    private static void twoSigns() {
        NorthVines x = Check.vines("slope bears 5 hail 0;row a plain faith 9 grapes 1;row b plain faith 9 grapes 1"
                + ";sign a 1 costs 0 day 0;sign b 1 costs 0 day 0");
        play(x, 0, 0, -2);
        play(x, 1, 1, 0);
        play(x, 40, 1, 0);
        x.show(0, true);
        play(x, 1, 2, 1);
        x.show(1, true);
        play(x, 1, 2, -2);
        x.day();
        Check.due("nothing is taken by it", x.spent(), 0);
        NorthVines none = Check.vines("slope bears 5 hail 0;row a plain faith 9 grapes 1;row b plain faith 19 grapes 1");
        play(none, 3, 1, -2);
    }

    private static void threeSigns() {
        NorthVines x = Check.vines("slope bears 5 hail 0;row a plain faith 9 grapes 1;row b plain faith 9 grapes 1"
                + ";row c plain faith 9 grapes 1;row d plain faith 9 grapes 1"
                + ";sign a 1 costs 0 day 0;sign b 1 costs 0 day 0;sign c 1 costs 0 day 0");
        play(x, 1, 2, 0);
        // Whichever the one takes first, one row is left to it; by passing none would be.
        NorthVines y = Check.vines("slope bears 5 hail 0;row a plain faith 8 grapes 1;row b plain faith 9 grapes 1"
                + ";sign a 1 costs 0 day 0;sign a 1 costs 0 day 0;sign b 1 costs 0 day 0");
        play(y, 1, 1, 0);
    }

    private static void oneThatMatters() {
        NorthVines x = Check.vines("slope bears 5 hail 0;row a plain faith 30 grapes 1;row b plain faith 9 grapes 1"
                + ";sign a 1 costs 0 day 0;sign b 1 costs 0 day 1;sign b 1 costs 0 day 9");
        play(x, 1, 1, -2);
        play(x, 2, 2, 1);
        NorthVines late = Check.vines("slope bears 5 hail 0;row a plain faith 30 grapes 1;row b plain faith 9 grapes 1"
                + ";sign a 1 costs 0 day 0;sign a 1 costs 0 day 0;sign a 1 costs 0 day 0;sign a 1 costs 0 day 0"
                + ";sign a 1 costs 0 day 0;sign b 1 costs 0 day 1");
        play(late, 1, 1, -2);
        play(late, 2, 2, 5);
        late.show(1, true);
        late.show(3, true);
        play(late, 2, 2, 5);
        late.show(5, true);
        play(late, 2, 2, -2);
        NorthVines walled = Check.vines("slope bears 5 hail 0;row a plain faith 10 grapes 1;row z plain faith 0 grapes 1"
                + ";sees a z by 1;wall a z costs 0;sign a 1 costs 0 day 9");
        play(walled, 1, 0, -2);
        walled.put(0, true);
        play(walled, 1, 1, -2);
        StringBuilder seven = new StringBuilder("slope bears 5 hail 0");
        for (char c = 'a'; c <= 'g'; c++) {
            seven.append(";row ").append(c).append(" plain faith 10 grapes 1");
        }
        play(Check.vines(seven.toString()), 3, 7, -2);
        // Behind ten days either of two will do, so that one is left even behind an idle sign.
        play(x, 10, 2, 0);
        x.show(0, true);
        play(x, 10, 2, 1);
    }

    private static void passing() {
        // One of two is enough, but behind a pass the other one would pass, too, and end it.
        NorthVines x = Check.vines("slope bears 5 hail 0;row b plain faith 9 grapes 1"
                + ";sign b 1 costs 0 day 0;sign b 1 costs 0 day 0");
        play(x, 1, 1, 0);
        // Both are needed, and the other one takes the second: passing is as good.
        NorthVines both = Check.vines("slope bears 5 hail 0;row b plain faith 8 grapes 1"
                + ";sign b 1 costs 0 day 0;sign b 1 costs 0 day 0");
        play(both, 1, 0, -2);
        // Of three that tell the one gets two, unless it begins with the idle one.
        NorthVines third = Check.vines("slope bears 5 hail 0;row b plain faith 8 grapes 1"
                + ";sign b 1 costs 0 day 9;sign b 1 costs 0 day 0;sign b 1 costs 0 day 0;sign b 1 costs 0 day 0");
        play(third, 1, 1, 1);
        NorthVines y = Check.vines("slope bears 5 hail 0;row b plain faith 9 grapes 1;sign b 1 costs 0 day 0");
        play(y, 1, 1, 0);
    }

    private static void refusals() {
        NorthVines x = Check.vines("slope bears 5 hail 0;row b plain faith 9 grapes 1;sign b 1 costs 0 day 0");
        for (int wrong : new int[] {-1, 41, Integer.MIN_VALUE, Integer.MAX_VALUE}) {
            Check.refused("tell(" + wrong + ")", x, x.tell(wrong), 2);
            Check.refused("tellMost(" + wrong + ")", x, x.tellMost(wrong), 2);
            Check.refused("value(" + wrong + ")", x, x.value(wrong), 2);
            Check.refused("take(" + wrong + ")", x, x.take(wrong), 2);
        }
        NorthVines none = new NorthVines();
        Check.refused("tell", none, none.tell(99), 1);
        Check.refused("tellMost", none, none.tellMost(99), 1);
        Check.refused("value", none, none.value(99), 1);
        Check.refused("take", none, none.take(99), 1);
    }
}
