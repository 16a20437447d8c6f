/** Promises 6 to 12, 51 to 53: what is so now. */
public final class NowTest {
    private static final String TEXT = "slope bears 7 hail 20;row a plain faith 12 grapes 30;row b old faith 9 grapes 20"
            + ";row c new faith 9 grapes 5;row d deaf faith 30 grapes 40"
            + ";sees a b by 1;sees a c by 2;sees d a by 3;sees b a by 4;wall a c costs 6;wall b a costs 8"
            + ";sign c 3 costs 10 day 2;sign a 20 costs 0 day 20;rumour b 2 day 1;doubted c day 4";

    public static void main(String[] args) {
        rows();
        signsAndWalls();
        sums();
        told();
        noSlope();
        Check.end("NowTest");
    }

    private static void rows() {
        NorthVines x = Check.vines(TEXT);
        int[][] due = {
            {0, 12, 0, 30, 6, 10}, {1, 9, 1, 7, 1, 1}, {2, 9, 1, 5, 0, 1}, {3, 30, 0, 40, 1, 0}};
        for (int r = 0; r < 4; r++) {
            for (int what = 0; what < 6; what++) {
                Check.answered("row(" + r + ", " + what + ")", x, x.row(r, what), due[r][what]);
            }
        }
        for (int wrong : new int[] {-1, 4, Integer.MIN_VALUE, Integer.MAX_VALUE}) {
            Check.refused("row(" + wrong + ", 0)", x, x.row(wrong, 0), 1);
        }
        for (int wrong : new int[] {-1, 6, Integer.MIN_VALUE, Integer.MAX_VALUE}) {
            Check.refused("row(0, " + wrong + ")", x, x.row(0, wrong), 1);
        }
        x.put(0, true);
        Check.due("sees behind a wall", x.row(0, 4), 2);
        Check.due("seen behind a wall", x.row(2, 5), 0);
        x.put(1, true);
        Check.due("sees behind another wall", x.row(1, 4), 0);
        Check.due("seen by the other one still", x.row(0, 5), 8);
        x.put(0, false);
        Check.due("sees again", x.row(0, 4), 6);
    }

    private static void signsAndWalls() {
        NorthVines x = Check.vines(TEXT);
        int[][] signs = {{2, 3, 10, 2, 0}, {0, 20, 0, 20, 0}};
        int[][] walls = {{0, 2, 6, 0}, {1, 0, 8, 0}};
        for (int k = 0; k < 2; k++) {
            for (int what = 0; what < 5; what++) {
                Check.answered("sign(" + k + ", " + what + ")", x, x.sign(k, what), signs[k][what]);
            }
            for (int what = 0; what < 4; what++) {
                Check.answered("wall(" + k + ", " + what + ")", x, x.wall(k, what), walls[k][what]);
            }
        }
        for (int wrong : new int[] {-1, 2, Integer.MIN_VALUE, Integer.MAX_VALUE}) {
            Check.refused("sign(" + wrong + ", 0)", x, x.sign(wrong, 0), 1);
            Check.refused("wall(" + wrong + ", 0)", x, x.wall(wrong, 0), 1);
        }
        for (int wrong : new int[] {-1, 5, Integer.MIN_VALUE, Integer.MAX_VALUE}) {
            Check.refused("sign(0, " + wrong + ")", x, x.sign(0, wrong), 1);
        }
        for (int wrong : new int[] {-1, 4, 5, Integer.MAX_VALUE}) {
            Check.refused("wall(0, " + wrong + ")", x, x.wall(0, wrong), 1);
        }
        x.show(1, true);
        x.put(1, true);
        Check.due("shown", x.sign(1, 4), 1);
        Check.due("the other isn't", x.sign(0, 4), 0);
        Check.due("up", x.wall(1, 3), 1);
        Check.due("the other isn't up", x.wall(0, 3), 0);
    }

    private static void sums() {
        NorthVines x = Check.vines(TEXT);
        Check.answered("doubters()", x, x.doubters(), 6);
        Check.answered("grapes()", x, x.grapes(), 30 + 7 + 5 + 40);
        Check.answered("weakest(), the first of like ones", x, x.weakest(), 1);
        Check.answered("spent()", x, x.spent(), 0);
        x.show(0, true);
        Check.due("spent() for a sign", x.spent(), 10);
        x.show(1, true);
        x.put(0, true);
        x.put(1, true);
        Check.due("spent() for all", x.spent(), 24);
        x.show(0, false);
        Check.due("spent() for fewer", x.spent(), 14);
        NorthVines y = Check.vines("slope bears 0 hail 0;row a plain faith 10 grapes 1");
        Check.due("10 believes", y.doubters(), 0);
        Check.due("weakest of one", y.weakest(), 0);
    }

    private static void told() {
        NorthVines x = Check.vines(TEXT);
        int[] sizes = {7, 20, 4, 4, 2, 2, 1, 1, 0, 0, 0, 0};
        for (int what = 0; what < sizes.length; what++) {
            Check.due("size(" + what + ")", x.size(what), sizes[what]);
        }
        for (int wrong : new int[] {-1, 12, Integer.MIN_VALUE, Integer.MAX_VALUE}) {
            Check.due("size(" + wrong + ")", x.size(wrong), -1);
        }
        Check.due("size() is no trouble", x.trouble(), 0);
        x.day();
        x.show(0, true);
        x.image();
        x.feed(0, 0, 0, 0, 0);
        Check.due("size(8)", x.size(8), 1);
        Check.due("size(9)", x.size(9), 2);
        Check.due("size(10)", x.size(10), 1);
        Check.due("size(11)", x.size(11), 20);
        x.undo();
        x.undo();
        Check.due("led(0)", x.led(0), 1);
        Check.due("led(1)", x.led(1), 2);
        for (int wrong : new int[] {2, -1, Integer.MIN_VALUE, Integer.MAX_VALUE}) {
            Check.dueThrow("led(" + wrong + ")", x, wrong);
        }
        NorthVines all = Check.vines("slope bears 0 hail 0;row a plain faith 0 grapes 1;row b plain faith 9 grapes 1");
        Check.due("led(0) of all", all.led(0), 0);
        Check.due("led(1) of all", all.led(1), 1);
        Check.dueThrow("led(2) of all", all, 2);
        x.row(9, 9);
        Check.due("trouble()", x.trouble(), 1);
        Check.dueThrow("led(2)", x, 2);
        x.size(99);
        x.feed(0, 0, 0, 0, 0);
        x.fault();
        x.where();
        Check.due("trouble() stays by calls that aren't refused by a number", x.trouble(), 1);
        Check.due("trouble() stays by itself", x.trouble(), 1);
        x.doubters();
        Check.due("trouble() of an answer", x.trouble(), 0);
    }

    private static void noSlope() {
        NorthVines x = new NorthVines();
        Check.refused("row", x, x.row(0, 0), 1);
        Check.refused("sign", x, x.sign(0, 0), 1);
        Check.refused("wall", x, x.wall(0, 0), 1);
        Check.refused("doubters", x, x.doubters(), 1);
        Check.refused("grapes", x, x.grapes(), 1);
        Check.refused("weakest", x, x.weakest(), 1);
        Check.refused("spent", x, x.spent(), 1);
    }
}
