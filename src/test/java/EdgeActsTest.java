import java.util.Map;
import java.util.function.ToLongFunction;

/** Edges of Terms III and IV and promises 45 to 53: acts, undoing, images, what is told. A test for each sentence. */
public final class EdgeActsTest {
    private static final String SEVEN = Edge.slope("0 0", "a plain 9 1", "b plain 9 1", "c plain 9 1", "d plain 9 1", "e plain 9 1",
            "f plain 9 1", "g plain 9 1");

    public static void main(String[] args) {
        shown();
        put();
        days();
        undone();
        images();
        told();
        troubles();
        Edge.covered(45, 53);
        Check.end("EdgeActsTest");
    }

    private static void shown() {
        showDone();
        showNone();
        showSo();
    }

    private static void put() {
        putDone();
        putNone();
        putSo();
    }

    private static void days() {
        dayWho();
        dayRefused();
        dayFull();
    }

    private static void undone() {
        undoLatest();
        undoAllRows();
        undoSixteen();
        undoNone();
    }

    private static void images() {
        imageNumbers();
        imageRefused();
        imageUpToThree();
        nothingUndone();
        backAll();
        backImagesStay();
        backRefused();
    }

    private static void told() {
        ledRow();
        ledNone();
        sizes();
        sizeOthers();
        sizeNothing();
    }

    private static void troubles() {
        none();
        troubleLatest();
        troubleNoNumber();
        troubleEach();
    }

    private static void unchanged(String what, NorthVines x, String before) {
        Check.due(what + " changes nothing", Edge.picture(x).equals(before), true);
    }

    // ---- signs and walls

    private static void showDone() {
        Edge.of("45", "SHOW a sign, or not (not is): true;");
        NorthVines x = Check.vines(Edge.MOST);
        for (int k = 0; k < 6; k++) {
            Check.act("show(" + k + ", true)", x, x.show(k, true), 0);
            for (int other = 0; other < 6; other++) {
                Check.due("sign(" + other + ", 4)", x.sign(other, 4), other <= k ? 1 : 0);
            }
        }
        Check.act("show(0, false)", x, x.show(0, false), 0);
        Check.act("show(5, false)", x, x.show(5, false), 0);
        Check.due("four are left", x.spent(), 4 * 99);
        Check.due("acts", x.size(9), 8);
    }

    private static void showNone() {
        Edge.of("45", "false: 1;");
        NorthVines none = new NorthVines();
        Check.act("show(0, true) without a slope", none, none.show(0, true), 1);
        Check.act("show(0, false) without a slope", none, none.show(0, false), 1);
        NorthVines most = Check.vines(Edge.MOST);
        Check.act("show(6, true)", most, most.show(6, true), 1);
        NorthVines x = Check.vines(Edge.ONE);
        String before = Edge.picture(x);
        Check.act("show(1, true)", x, x.show(1, true), 1);
        Check.act("show(1, false), though it isn't shown", x, x.show(1, false), 1);
        for (int far : Edge.FAR) {
            Check.act("show(" + far + ", true)", x, x.show(far, true), 1);
            Check.act("show(" + far + ", false)", x, x.show(far, false), 1);
        }
        Check.act("show(32, true)", x, x.show(32, true), 1);
        unchanged("what was refused", x, before);
    }

    private static void showSo() {
        Edge.of("45", "5 (it is so).");
        NorthVines x = Check.vines(Edge.ONE);
        String before = Edge.picture(x);
        Check.act("not shown already", x, x.show(0, false), 5);
        unchanged("show(0, false)", x, before);
        x.show(0, true);
        String with = Edge.picture(x);
        Check.act("shown already", x, x.show(0, true), 5);
        unchanged("show(0, true)", x, with);
        Check.act("undo() the one act", x, x.undo(), 0);
        unchanged("show and undo", x, before);
    }

    private static void putDone() {
        Edge.of("46", "PUT up a wall, or take it down (not is): true;");
        NorthVines x = Check.vines(Edge.MOST);
        for (int k = 0; k < 5; k++) {
            Check.act("put(" + k + ", true)", x, x.put(k, true), 0);
            for (int other = 0; other < 5; other++) {
                Check.due("wall(" + other + ", 3)", x.wall(other, 3), other <= k ? 1 : 0);
            }
        }
        Check.act("put(0, false)", x, x.put(0, false), 0);
        Check.act("put(4, false)", x, x.put(4, false), 0);
        Check.due("three are left", x.spent(), 3 * 99);
        Check.due("acts", x.size(9), 7);
    }

    private static void putNone() {
        Edge.of("46", "false: 1;");
        NorthVines none = new NorthVines();
        Check.act("put(0, true) without a slope", none, none.put(0, true), 1);
        Check.act("put(0, false) without a slope", none, none.put(0, false), 1);
        NorthVines most = Check.vines(Edge.MOST);
        Check.act("put(5, true), a sign's number", most, most.put(5, true), 1);
        NorthVines x = Check.vines(Edge.ONE);
        String before = Edge.picture(x);
        Check.act("put(1, true)", x, x.put(1, true), 1);
        Check.act("put(1, false), though it isn't up", x, x.put(1, false), 1);
        for (int far : Edge.FAR) {
            Check.act("put(" + far + ", true)", x, x.put(far, true), 1);
            Check.act("put(" + far + ", false)", x, x.put(far, false), 1);
        }
        Check.act("put(32, true)", x, x.put(32, true), 1);
        unchanged("what was refused", x, before);
    }

    private static void putSo() {
        Edge.of("46", "5 (it is so).");
        NorthVines x = Check.vines(Edge.ONE);
        String before = Edge.picture(x);
        Check.act("not up already", x, x.put(0, false), 5);
        unchanged("put(0, false)", x, before);
        x.put(0, true);
        String with = Edge.picture(x);
        Check.act("up already", x, x.put(0, true), 5);
        unchanged("put(0, true)", x, with);
        Check.act("undo() the one act", x, x.undo(), 0);
        unchanged("put and undo", x, before);
    }

    // ---- days

    private static void dayWho() {
        Edge.of("47", "DAY: who DOUBTS then, as bits.");
        NorthVines nobody = Check.vines(Edge.slope("0 0", "a plain 10 1"));
        Check.answered("nobody", nobody, nobody.day(), 0);
        NorthVines all = Check.vines(SEVEN);
        Check.answered("all of seven", all, all.day(), 127);
        NorthVines then = Check.vines(Edge.slope("0 0", "a plain 10 1", "b plain 9 1") + ";rumour a 1 day 0;sign b 1 costs 0 day 0;rumour a 1 day 20"
                + ";sign a 2 costs 0 day 20");
        then.show(0, true);
        Check.answered("then, not before", then, then.day(), 1);
        Check.due("DAYS", then.size(8), 1);
        for (int day = 1; day < 20; day++) {
            Check.answered("DAY " + day, then, then.day(), 1);
        }
        then.show(1, true);
        Check.answered("DAY 20", then, then.day(), 0);
        Check.answered("DAY 21", then, then.day(), 0);
        Check.due("FAITH", then.row(0, 1), 10);
    }

    private static void dayRefused() {
        Edge.of("47", "NONE: 1 (no SLOPE);");
        Edge.withoutSlope("day");
        NorthVines x = new NorthVines();
        x.day();
        Check.due("no DAY went by", x.size(8), 0);
        Check.due("nothing to undo", x.size(9), 0);
    }

    private static void dayFull() {
        // More calls than an object is used for: only a program that tells its DAYS wrongly could be refused sooner.
        Edge.of("47", "3 (999 went by).");
        NorthVines x = Check.vines(Edge.slope("0 0", "a plain 9 1"));
        for (int i = 0; i < 998; i++) {
            x.day();
        }
        Check.answered("the 999th", x, x.day(), 1);
        String before = Edge.picture(x);
        Check.refused("the 1000th", x, x.day(), 3);
        unchanged("the 1000th", x, before);
        x.undo();
        Check.answered("the 999th again", x, x.day(), 1);
        Check.refused("the 1000th again", x, x.day(), 3);
        Check.due("days ahead are no DAYS yet", x.faithIn(0, 40), 9);
    }

    // ---- undoing

    private static void undoLatest() {
        Edge.of("III", "ACTS: SHOW a sign or not, PUT up a wall or not, DAY. UNDO: the latest");
        NorthVines x = Check.vines(Edge.ONE);
        String[] pictures = new String[6];
        pictures[0] = Edge.picture(x);
        x.show(0, true);
        pictures[1] = Edge.picture(x);
        x.put(0, true);
        pictures[2] = Edge.picture(x);
        x.day();
        pictures[3] = Edge.picture(x);
        x.put(0, false);
        pictures[4] = Edge.picture(x);
        x.show(0, false);
        pictures[5] = Edge.picture(x);
        for (int i = 4; i >= 0; i--) {
            Check.act("undo() to " + i, x, x.undo(), 0);
            unchanged("undo() to " + i + " and what was done since", x, pictures[i]);
        }
        Check.act("undo() of none", x, x.undo(), 6);
    }

    /** A slope on which the first DAY changes each of seven rows. */
    private static String allChange() {
        return Edge.slope("0 0", "a plain 10 1", "b plain 11 1", "c plain 12 1", "d plain 13 1", "e plain 14 1", "f plain 15 1", "g plain 16 1")
                + ";sees a b by 1;sees b c by 1;sees c d by 1;sees d e by 1;sees e f by 1;sees f g by 1;rumour g 9 day 0";
    }

    private static void undoAllRows() {
        Edge.of("48", "UNDO: true;");
        NorthVines x = Check.vines(allChange());
        x.day();
        for (int r = 0; r < 7; r++) {
            Check.due("FAITH of " + r + " behind the DAY", x.row(r, 1), r == 6 ? 7 : 11 + r);
        }
        x.day();
        Check.act("undo()", x, x.undo(), 0);
        for (int r = 0; r < 7; r++) {
            Check.due("FAITH of " + r + " behind the DAY again", x.row(r, 1), r == 6 ? 7 : 11 + r);
        }
        Check.act("undo() once more", x, x.undo(), 0);
        for (int r = 0; r < 7; r++) {
            Check.due("FAITH of " + r + " as told", x.row(r, 1), 10 + r);
        }
    }

    private static void undoSixteen() {
        Edge.of("III", "(16 are kept)");
        for (int acts : new int[] {15, 16, 17, 18, 31, 32, 33, 48}) {
            NorthVines x = Check.vines(Edge.slope("0 0", "a plain 30 1"));
            for (int i = 0; i < acts; i++) {
                x.day();
            }
            int kept = Math.min(16, acts);
            Check.due(acts + " acts, kept", x.size(9), kept);
            for (int i = 1; i <= kept; i++) {
                Check.act(acts + " acts, undo() " + i, x, x.undo(), 0);
                Check.due(acts + " acts, DAYS behind undo() " + i, x.size(8), acts - i);
                Check.due(acts + " acts, kept behind undo() " + i, x.size(9), kept - i);
            }
            Check.act(acts + " acts, undo() once more", x, x.undo(), 6);
            Check.due(acts + " acts, DAYS left", x.size(8), acts - kept);
            x.day();
            Check.act(acts + " acts, one more, undo()", x, x.undo(), 0);
            Check.due(acts + " acts, DAYS left again", x.size(8), acts - kept);
        }
    }

    private static void undoNone() {
        Edge.of("48", "UNDO: true; false: 6.");
        NorthVines none = new NorthVines();
        Check.act("without a slope", none, none.undo(), 6);
        NorthVines x = Check.vines(Edge.ONE);
        String before = Edge.picture(x);
        Check.act("nothing was done", x, x.undo(), 6);
        unchanged("undo()", x, before);
        x.show(0, false);
        x.put(9, true);
        x.image();
        Check.act("what was refused, and images, are no ACTS", x, x.undo(), 6);
        x.day();
        Check.act("a DAY", x, x.undo(), 0);
        Check.act("what was undone isn't done again", x, x.undo(), 6);
    }

    // ---- images

    private static void imageNumbers() {
        Edge.of("49", "An IMAGE: its number.");
        NorthVines x = Check.vines(Edge.ONE);
        for (int i = 0; i < 3; i++) {
            Check.answered("image() " + i, x, x.image(), i);
            Check.due("images", x.size(10), i + 1);
        }
    }

    private static void imageRefused() {
        Edge.of("49", "NONE: 1 (no SLOPE); 3.");
        Edge.withoutSlope("image");
        NorthVines x = Check.vines(Edge.ONE);
        x.image();
        x.image();
        x.image();
        x.day();
        String before = Edge.picture(x);
        Check.refused("a fourth", x, x.image(), 3);
        unchanged("a fourth", x, before);
        x.back(2);
        Check.refused("a fourth behind back", x, x.image(), 3);
        Check.due("the third is as it was", x.size(8), 0);
        NorthVines none = new NorthVines();
        none.image();
        Check.due("no image without a slope", none.size(10), 0);
    }

    private static void imageUpToThree() {
        Edge.of("III", "IMAGES: up to 3;");
        NorthVines x = Check.vines(Edge.ONE);
        for (int i = 0; i < 3; i++) {
            x.image();
            x.day();
        }
        Check.refused("a fourth", x, x.image(), 3);
        for (int i = 2; i >= 0; i--) {
            Check.act("back(" + i + ")", x, x.back(i), 0);
            Check.due("DAYS of " + i, x.size(8), i);
        }
        Check.due("a new slope", Check.read(x, Edge.ONE), 2);
        Check.answered("has room for three again", x, x.image(), 0);
    }

    private static void nothingUndone() {
        Edge.of("III", "gone back to one, nothing can be undone.");
        NorthVines x = Check.vines(Edge.ONE);
        x.show(0, true);
        x.image();
        x.day();
        Check.due("two to undo", x.size(9), 2);
        x.back(0);
        Check.due("none to undo", x.size(9), 0);
        Check.act("undo()", x, x.undo(), 6);
        Check.due("the sign stays", x.sign(0, 4), 1);
        for (int i = 0; i < 17; i++) {
            x.day();
        }
        Check.due("sixteen to undo", x.size(9), 16);
        x.back(0);
        Check.act("undo() behind sixteen", x, x.undo(), 6);
        x.day();
        Check.act("undo() what came since", x, x.undo(), 0);
        Check.due("no DAY", x.size(8), 0);
        Check.act("undo() no more than that", x, x.undo(), 6);
    }

    private static void backAll() {
        Edge.of("50", "All is as by an IMAGE");
        NorthVines x = Check.vines(Edge.ONE);
        String[] pictures = new String[3];
        x.image();
        x.show(0, true);
        x.day();
        x.image();
        x.put(0, true);
        x.show(0, false);
        x.day();
        x.day();
        x.image();
        for (int i = 0; i < 3; i++) {
            x.back(i);
            pictures[i] = Edge.picture(x);
        }
        Check.due("DAYS of 0", x.back(0) ? x.size(8) : -1, 0);
        Check.due("FAITH of 0", x.row(1, 1), 9);
        Check.due("sign of 0", x.sign(0, 4), 0);
        Check.due("wall of 0", x.wall(0, 3), 0);
        Check.due("DAYS of 1", x.back(1) ? x.size(8) : -1, 1);
        Check.due("FAITH of 1", x.row(1, 1), 11);
        Check.due("sign of 1", x.sign(0, 4), 1);
        Check.due("wall of 1", x.wall(0, 3), 0);
        Check.due("DAYS of 2", x.back(2) ? x.size(8) : -1, 3);
        Check.due("FAITH of 2", x.row(1, 1), 11);
        Check.due("sign of 2", x.sign(0, 4), 0);
        Check.due("wall of 2", x.wall(0, 3), 1);
        for (int i = 2; i >= 0; i--) {
            x.show(0, x.sign(0, 4) == 0);
            x.put(0, x.wall(0, 3) == 0);
            x.day();
            Check.act("back(" + i + ") once more", x, x.back(i), 0);
            unchanged("what came behind image " + i, x, pictures[i]);
        }
        NorthVines seven = Check.vines(allChange());
        seven.image();
        seven.day();
        seven.image();
        seven.day();
        seven.image();
        for (int image : new int[] {1, 0, 1}) {
            seven.back(image);
            for (int r = 0; r < 7; r++) {
                Check.due("FAITH of " + r + " by " + image, seven.row(r, 1), image == 0 ? 10 + r : r == 6 ? 7 : 11 + r);
            }
        }
    }

    private static void backImagesStay() {
        Edge.of("50", "(all IMAGES stay)");
        NorthVines x = Check.vines(Edge.ONE);
        x.image();
        x.day();
        x.image();
        Check.act("back(0)", x, x.back(0), 0);
        Check.due("images", x.size(10), 2);
        Check.act("back(1), a later one", x, x.back(1), 0);
        Check.due("DAYS", x.size(8), 1);
        Check.answered("the next one", x, x.image(), 2);
        x.day();
        x.undo();
        Check.due("undo leaves them", x.size(10), 3);
        x.undo();
        Check.act("back(2)", x, x.back(2), 0);
        Check.due("DAYS of 2", x.size(8), 1);
    }

    private static void backRefused() {
        Edge.of("50", "true; false: 1.");
        NorthVines none = new NorthVines();
        Check.act("without a slope", none, none.back(0), 1);
        NorthVines x = Check.vines(Edge.ONE);
        Check.act("without an image", x, x.back(0), 1);
        x.image();
        x.day();
        String before = Edge.picture(x);
        Check.act("back(1) of one", x, x.back(1), 1);
        for (int far : Edge.FAR) {
            Check.act("back(" + far + ")", x, x.back(far), 1);
        }
        unchanged("what was refused", x, before);
        x.image();
        x.image();
        Check.act("back(3) of three", x, x.back(3), 1);
        Check.act("back(2) of three", x, x.back(2), 0);
    }

    // ---- what is told

    private static void ledRow() {
        Edge.of("51", "The i-th row, by numbers, that DOUBTS.");
        NorthVines all = Check.vines(SEVEN);
        for (int i = 0; i < 7; i++) {
            Check.due("led(" + i + ") of all", all.led(i), i);
        }
        NorthVines some = Check.vines(Edge.slope("0 0", "a plain 10 1", "b plain 9 1", "c plain 30 1", "d plain 0 1", "e plain 10 1"));
        Check.due("led(0)", some.led(0), 1);
        Check.due("led(1)", some.led(1), 3);
    }

    private static void ledNone() {
        Edge.of("51", "NoSuchElementException if there is none such.");
        NorthVines none = new NorthVines();
        NorthVines all = Check.vines(SEVEN);
        NorthVines nobody = Check.vines(Edge.slope("0 0", "a plain 10 1"));
        for (int far : Edge.FAR) {
            Check.dueThrow("led(" + far + ") without a slope", none, far);
            Check.dueThrow("led(" + far + ") of all", all, far);
            Check.dueThrow("led(" + far + ") of nobody", nobody, far);
        }
        Check.dueThrow("led(0) without a slope", none, 0);
        Check.dueThrow("led(7) of seven", all, 7);
        Check.dueThrow("led(0) of nobody", nobody, 0);
    }

    private static void sizes() {
        Edge.of("52", "0 bears, 1 hail, 2 rows, 3 sees, 4 walls, 5 signs, 6 rumours, 7 seen, 8 DAYS gone by, 9 ACTS that can be undone,"
                + " 10 IMAGES, 11 bytes of THE TAPE.");
        NorthVines x = Check.vines(Edge.MOST);
        for (int i = 0; i < 20; i++) {
            x.day();
        }
        for (int i = 0; i < 4; i++) {
            x.image();
        }
        for (int i = 0; i < 46; i++) {
            x.feed(0, 0, 0, 0, 0);
        }
        int[] due = {99, 100, 7, 10, 5, 6, 5, 5, 20, 16, 3, 900};
        for (int what = 0; what < due.length; what++) {
            Check.due("size(" + what + "), the most", x.size(what), due[what]);
        }
        NorthVines least = Check.vines(Edge.slope("0 0", "a plain 0 0"));
        for (int what = 0; what <= 11; what++) {
            Check.due("size(" + what + "), the least", least.size(what), what == 2 ? 1 : 0);
        }
    }

    private static void sizeOthers() {
        Edge.of("52", "NONE for others;");
        NorthVines x = Check.vines(Edge.ONE);
        NorthVines none = new NorthVines();
        for (int what : new int[] {-1, 12, 13, 64, 256, Integer.MIN_VALUE, Integer.MAX_VALUE}) {
            Check.due("size(" + what + ")", x.size(what), -1);
            Check.due("size(" + what + ") without a slope", none.size(what), -1);
        }
        Check.due("no trouble", x.trouble(), 0);
    }

    private static void sizeNothing() {
        Edge.of("52", "0 for what there isn't.");
        NorthVines none = new NorthVines();
        for (int what = 0; what <= 11; what++) {
            Check.due("size(" + what + ") without a slope", none.size(what), 0);
        }
        none.feed(0, 0, 0, 0, 0);
        Check.due("bytes without a slope", none.size(11), 20);
        Check.due("no rows by them", none.size(2), 0);
    }

    // ---- troubles

    private static void troubleLatest() {
        Edge.of("53", "TROUBLE.");
        Check.due("new", new NorthVines().trouble(), 0);
        for (Map.Entry<String, ToLongFunction<NorthVines>> call : Edge.calls().entrySet()) {
            NorthVines x = Check.vines(Edge.ONE);
            x.image();
            x.undo();
            Check.due("ahead of " + call.getKey(), x.trouble(), 6);
            Check.due(call.getKey() + " has an answer", call.getValue().applyAsLong(x) != -1, true);
            Check.due("behind " + call.getKey(), x.trouble(), 0);
        }
        NorthVines x = new NorthVines();
        x.undo();
        Check.feed(x, Edge.ONE);
        Check.answered("slope behind a trouble", x, x.slope(Edge.ONE.length()), 2);
        x.day();
        x.row(9, 9);
        Check.act("undo behind a trouble", x, x.undo(), 0);
        x.image();
        x.row(9, 9);
        Check.act("back behind a trouble", x, x.back(0), 0);
    }

    private static void none() {
        Edge.of("IV", "`NONE = -1`: There is none; refused.");
        Check.due("NONE", NorthVines.NONE, -1);
        NorthVines x = new NorthVines();
        Check.due("size(12)", x.size(12), NorthVines.NONE);
        Check.due("doubters()", x.doubters(), NorthVines.NONE);
        Check.due("mean(0, true)", x.mean(0, true), NorthVines.NONE);
    }

    private static void troubleNoNumber() {
        Edge.of("IV", "TROUBLE of the latest call that may be refused (those of which a number is told here)");
        NorthVines x = Check.vines(Edge.ONE);
        x.row(9, 9);
        for (int i = 0; i < 47; i++) {
            x.feed(0, 0, 0, 0, 0);
        }
        Check.due("behind feed, though it had no room", x.trouble(), 1);
        x.fault();
        x.where();
        x.size(0);
        x.size(99);
        x.trouble();
        Check.due("behind fault, where, size, trouble", x.trouble(), 1);
        Check.due("led(0)", x.led(0), 1);
        Check.due("behind led", x.trouble(), 1);
        Check.dueThrow("led(1)", x, 1);
        Check.due("behind led that throws", x.trouble(), 1);
    }

    private static void troubleEach() {
        Edge.of("IV", "0 it wasn't; 1 there is none such; 2 a number; 3 no room; 4 a FAULT; 5 not so; 6 there is none.");
        NorthVines x = Check.vines(Edge.ONE);
        Check.due("0", x.trouble(), 0);
        x.row(2, 0);
        Check.due("1", x.trouble(), 1);
        x.faithIn(0, 41);
        Check.due("2", x.trouble(), 2);
        for (int i = 0; i < 4; i++) {
            x.image();
        }
        Check.due("3", x.trouble(), 3);
        Check.read(x, "slope");
        Check.due("4", x.trouble(), 4);
        x.show(0, false);
        Check.due("5", x.trouble(), 5);
        x.undo();
        Check.due("6", x.trouble(), 6);
        x.grapes();
        Check.due("0 again", x.trouble(), 0);
    }
}
