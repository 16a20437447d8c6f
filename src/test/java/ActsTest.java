/** Promises 45 to 50: acts, undoing them, images. */
public final class ActsTest {
    private static final String TEXT = "slope bears 5 hail 0;row a plain faith 12 grapes 1;row b plain faith 20 grapes 1"
            + ";sees b a by 9;wall b a costs 4;sign a 3 costs 6 day 1;sign b 1 costs 7 day 0;rumour a 3 day 0";

    public static void main(String[] args) {
        show();
        put();
        day();
        undo();
        sixteen();
        images();
        manyDays();
        noSlope();
        Check.end("ActsTest");
    }

    private static void act(String call, NorthVines x, boolean got, int trouble) {
        Check.due(call, got, trouble == 0);
        Check.due(call + ", trouble()", x.trouble(), trouble);
    }

    private static void show() {
        NorthVines x = Check.vines(TEXT);
        act("show(0, false)", x, x.show(0, false), 5);
        act("show(0, true)", x, x.show(0, true), 0);
        act("show(0, true) again", x, x.show(0, true), 5);
        Check.due("acts", x.size(9), 1);
        Check.due("spent()", x.spent(), 6);
        act("show(1, true)", x, x.show(1, true), 0);
        act("show(0, false)", x, x.show(0, false), 0);
        Check.due("sign(0, 4)", x.sign(0, 4), 0);
        Check.due("sign(1, 4)", x.sign(1, 4), 1);
        for (int wrong : new int[] {-1, 2, 6, 32, Integer.MIN_VALUE, Integer.MAX_VALUE}) {
            act("show(" + wrong + ", true)", x, x.show(wrong, true), 1);
            act("show(" + wrong + ", false)", x, x.show(wrong, false), 1);
        }
    }

    private static void put() {
        NorthVines x = Check.vines(TEXT);
        act("put(0, false)", x, x.put(0, false), 5);
        act("put(0, true)", x, x.put(0, true), 0);
        act("put(0, true) again", x, x.put(0, true), 5);
        Check.due("wall(0, 3)", x.wall(0, 3), 1);
        Check.due("spent()", x.spent(), 4);
        act("put(0, false)", x, x.put(0, false), 0);
        Check.due("wall(0, 3)", x.wall(0, 3), 0);
        for (int wrong : new int[] {-1, 1, 32, Integer.MIN_VALUE, Integer.MAX_VALUE}) {
            act("put(" + wrong + ", true)", x, x.put(wrong, true), 1);
            act("put(" + wrong + ", false)", x, x.put(wrong, false), 1);
        }
    }

    private static void day() {
        NorthVines x = Check.vines(TEXT);
        x.show(0, true);
        Check.answered("day() 0", x, x.day(), 1);
        Check.due("a", x.row(0, 1), 9);
        Check.answered("day() 1", x, x.day(), 0);
        Check.due("a by its sign", x.row(0, 1), 12);
        Check.due("b saw a doubt", x.row(1, 1), 11);
        Check.due("days", x.size(8), 2);
        Check.answered("day() 2", x, x.day(), 0);
        Check.due("b is raised", x.row(1, 1), 12);
        Check.due("acts", x.size(9), 4);
    }

    private static void undo() {
        NorthVines x = Check.vines(TEXT);
        act("undo() of nothing", x, x.undo(), 6);
        x.show(1, true);
        x.put(0, true);
        x.day();
        x.show(1, false);
        Check.due("b", x.row(1, 1), 21);
        act("undo() a sign", x, x.undo(), 0);
        Check.due("shown again", x.sign(1, 4), 1);
        Check.due("the day stays", x.size(8), 1);
        act("undo() a day", x, x.undo(), 0);
        Check.due("days", x.size(8), 0);
        Check.due("a", x.row(0, 1), 12);
        Check.due("b", x.row(1, 1), 20);
        act("undo() a wall", x, x.undo(), 0);
        Check.due("up", x.wall(0, 3), 0);
        act("undo() the first", x, x.undo(), 0);
        Check.due("spent()", x.spent(), 0);
        act("undo() of nothing more", x, x.undo(), 6);
        x.show(7, true);
        x.show(0, false);
        x.image();
        Check.due("what was refused, and images, are no acts", x.size(9), 0);
    }

    private static void sixteen() {
        NorthVines x = Check.vines(TEXT);
        for (int i = 0; i < 20; i++) {
            x.show(0, i % 2 == 0);
        }
        x.show(1, true);
        Check.due("acts kept", x.size(9), 16);
        for (int i = 0; i < 16; i++) {
            act("undo() " + i, x, x.undo(), 0);
            Check.due("acts left", x.size(9), 15 - i);
        }
        Check.due("five acts stay: sign 0 shown", x.sign(0, 4), 1);
        Check.due("five acts stay: sign 1 not", x.sign(1, 4), 0);
        act("undo() 17", x, x.undo(), 6);
        for (int i = 0; i < 17; i++) {
            x.day();
        }
        Check.due("acts kept again", x.size(9), 16);
        for (int i = 0; i < 16; i++) {
            x.undo();
        }
        Check.due("one day stays", x.size(8), 1);
        act("undo() once more", x, x.undo(), 6);
    }

    private static void images() {
        NorthVines x = Check.vines(TEXT);
        act("back(0) without one", x, x.back(0), 1);
        Check.answered("image() 0", x, x.image(), 0);
        x.day();
        x.show(0, true);
        x.put(0, true);
        Check.answered("image() 1", x, x.image(), 1);
        Check.due("acts", x.size(9), 3);
        x.day();
        Check.answered("image() 2", x, x.image(), 2);
        Check.refused("image() 3", x, x.image(), 3);
        Check.due("images", x.size(10), 3);
        act("back(0)", x, x.back(0), 0);
        Check.due("days", x.size(8), 0);
        Check.due("spent()", x.spent(), 0);
        Check.due("a", x.row(0, 1), 12);
        Check.due("nothing to undo", x.size(9), 0);
        act("undo()", x, x.undo(), 6);
        Check.due("all images stay", x.size(10), 3);
        act("back(2)", x, x.back(2), 0);
        Check.due("days of 2", x.size(8), 2);
        Check.due("a of 2", x.row(0, 1), 12);
        x.put(0, false);
        x.undo();
        Check.due("the wall of 2 again", x.wall(0, 3), 1);
        act("back(1)", x, x.back(1), 0);
        Check.due("days of 1", x.size(8), 1);
        Check.due("a of 1", x.row(0, 1), 9);
        Check.due("spent() of 1", x.spent(), 10);
        x.show(1, true);
        x.show(0, false);
        x.put(0, false);
        x.undo();
        Check.due("sign 1 alone behind undo", x.sign(1, 4), 1);
        Check.due("sign 0 behind undo", x.sign(0, 4), 0);
        Check.due("the wall behind undo", x.wall(0, 3), 1);
        x.undo();
        x.undo();
        Check.due("spent() of 1 again", x.spent(), 10);
        x.day();
        act("undo() behind back", x, x.undo(), 0);
        Check.due("days of 1 again", x.size(8), 1);
        for (int wrong : new int[] {-1, 3, Integer.MIN_VALUE, Integer.MAX_VALUE}) {
            x.day();
            act("back(" + wrong + ")", x, x.back(wrong), 1);
            Check.due("back(" + wrong + ") leaves what can be undone", x.undo(), true);
        }
    }

    private static void manyDays() {
        NorthVines x = Check.vines(TEXT);
        for (int i = 0; i < 999; i++) {
            x.day();
        }
        Check.due("999 days", x.size(8), 999);
        Check.refused("day() 999", x, x.day(), 3);
        Check.due("999 days still", x.size(8), 999);
        Check.due("acts", x.size(9), 16);
        x.undo();
        Check.answered("day() behind undo", x, x.day(), x.doubters());
    }

    private static void noSlope() {
        NorthVines x = new NorthVines();
        act("show", x, x.show(0, true), 1);
        act("put", x, x.put(0, true), 1);
        Check.refused("day", x, x.day(), 1);
        act("undo", x, x.undo(), 6);
        Check.refused("image", x, x.image(), 1);
        act("back", x, x.back(0), 1);
    }
}
