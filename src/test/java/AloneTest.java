import java.util.function.ToLongFunction;

/**
 * Each call that may be refused, alone: the answer on an object that was asked nothing else, and
 * the TROUBLE it leaves behind where another one was left before.
 */
public final class AloneTest {
    private static final String TEXT = "slope bears 10 hail 50;row ash plain faith 14 grapes 30;row bay old faith 12 grapes 20"
            + ";row cot new faith 16 grapes 5;row dip deaf faith 11 grapes 40;sees ash bay by 3;sees bay cot by 4"
            + ";sees cot ash by 2;sees dip cot by 5;wall bay cot costs 7;wall dip cot costs 9;sign cot 6 costs 5 day 0"
            + ";sign ash 4 costs 3 day 2;rumour cot 4 day 0;rumour bay 3 day 1;believed bay day 0;doubted cot day 0";

    public static void main(String[] args) {
        now();
        days();
        choices();
        source();
        parties();
        chance();
        acts();
        slope();
        Check.end("AloneTest");
    }

    /** The answer, 0 behind a trouble; then each wrong call by its number behind no trouble, and behind 6. */
    private static void fine(String name, long want, ToLongFunction<NorthVines> call) {
        Check.due(name + " alone", call.applyAsLong(Check.vines(TEXT)), want);
        NorthVines x = Check.vines(TEXT);
        x.undo();
        Check.due("a trouble before " + name, x.trouble(), 6);
        Check.due(name + " behind a trouble", call.applyAsLong(x), want);
        Check.due("trouble() of " + name, x.trouble(), 0);
    }

    private static void wrong(String name, int why, ToLongFunction<NorthVines> call) {
        wrongOn(Check.vines(TEXT), name, why, call);
        NorthVines x = Check.vines(TEXT);
        x.undo();
        wrongOn(x, name, why, call);
    }

    private static void without(String name, int why, ToLongFunction<NorthVines> call) {
        wrongOn(new NorthVines(), name + " without a slope", why, call);
        NorthVines x = new NorthVines();
        x.slope(-1);
        wrongOn(x, name + " without a slope", why, call);
    }

    private static void wrongOn(NorthVines x, String name, int why, ToLongFunction<NorthVines> call) {
        Check.due(name, call.applyAsLong(x), -1);
        Check.due("trouble() of " + name, x.trouble(), why);
    }

    private static void slopeAsked(String name, long want, ToLongFunction<NorthVines> call) {
        fine(name, want, call);
        without(name, 1, call);
    }

    private static void now() {
        slopeAsked("row(3, 3)", 40, x -> x.row(3, 3));
        wrong("row(4, 3)", 1, x -> x.row(4, 3));
        wrong("row(3, 6)", 1, x -> x.row(3, 6));
        slopeAsked("sign(1, 2)", 3, x -> x.sign(1, 2));
        wrong("sign(2, 2)", 1, x -> x.sign(2, 2));
        wrong("sign(1, 5)", 1, x -> x.sign(1, 5));
        slopeAsked("wall(1, 2)", 9, x -> x.wall(1, 2));
        wrong("wall(2, 2)", 1, x -> x.wall(2, 2));
        wrong("wall(1, 4)", 1, x -> x.wall(1, 4));
        slopeAsked("doubters()", 0, x -> x.doubters());
        slopeAsked("grapes()", 95, x -> x.grapes());
        slopeAsked("weakest()", 3, x -> x.weakest());
        slopeAsked("spent()", 0, x -> x.spent());
    }

    private static void days() {
        slopeAsked("faithIn(2, 1)", 8, x -> x.faithIn(2, 1));
        wrong("faithIn(4, 1)", 1, x -> x.faithIn(4, 1));
        wrong("faithIn(2, 41)", 2, x -> x.faithIn(2, 41));
        slopeAsked("doubtersIn(5)", 9, x -> x.doubtersIn(5));
        wrong("doubtersIn(41)", 2, x -> x.doubtersIn(41));
        slopeAsked("when(3)", 2, x -> x.when(3));
        wrong("when(4)", 1, x -> x.when(4));
        slopeAsked("first()", 2, x -> x.first());
        slopeAsked("worstDay()", 8, x -> x.worstDay());
        slopeAsked("still()", 12, x -> x.still());
        slopeAsked("harvest(2)", 160, x -> x.harvest(2));
        wrong("harvest(-1)", 2, x -> x.harvest(-1));
        slopeAsked("reach(2)", 15, x -> x.reach(2));
        wrong("reach(4)", 1, x -> x.reach(4));
    }

    private static void choices() {
        slopeAsked("feign(2)", 5, x -> x.feign(2));
        wrong("feign(41)", 2, x -> x.feign(41));
        slopeAsked("feignSigns(2)", 1, x -> x.feignSigns(2));
        wrong("feignSigns(41)", 2, x -> x.feignSigns(41));
        slopeAsked("feignFor(1, 3)", 5, x -> x.feignFor(1, 3));
        wrong("feignFor(4, 3)", 1, x -> x.feignFor(4, 3));
        wrong("feignFor(1, -1)", 2, x -> x.feignFor(1, -1));
        slopeAsked("bestSign(2)", 0, x -> x.bestSign(2));
        wrong("bestSign(41)", 2, x -> x.bestSign(41));
        slopeAsked("walls(3)", 16, x -> x.walls(3));
        wrong("walls(41)", 2, x -> x.walls(41));
        slopeAsked("wallsUp(3)", 3, x -> x.wallsUp(3));
        wrong("wallsUp(41)", 2, x -> x.wallsUp(41));
        slopeAsked("cut(2)", 3, x -> x.cut(2));
        wrong("cut(4)", 1, x -> x.cut(4));
    }

    private static void source() {
        slopeAsked("sets()", 2, x -> x.sets());
        slopeAsked("setAt(1)", 3, x -> x.setAt(1));
        wrong("setAt(2)", 1, x -> x.setAt(2));
        slopeAsked("could()", 3, x -> x.could());
        slopeAsked("surely()", 1, x -> x.surely());
        slopeAsked("look()", 4, x -> x.look());
        slopeAsked("lookLeaves()", 1, x -> x.lookLeaves());
        slopeAsked("judge()", -2, x -> x.judge());
    }

    private static void parties() {
        slopeAsked("tell(1)", 0, x -> x.tell(1));
        wrong("tell(41)", 2, x -> x.tell(41));
        slopeAsked("tellMost(1)", 2, x -> x.tellMost(1));
        wrong("tellMost(41)", 2, x -> x.tellMost(41));
        slopeAsked("value(1)", 4, x -> x.value(1));
        wrong("value(41)", 2, x -> x.value(41));
        slopeAsked("take(1)", 0, x -> x.take(1));
        wrong("take(41)", 2, x -> x.take(41));
    }

    private static void chance() {
        // Behind the first day cot doubts, and bay, dip and ash have 13, 12 and 14.
        slopeAsked("mean(1, false)", 3, x -> x.mean(1, false));
        slopeAsked("mean(1, true)", 1, x -> x.mean(1, true));
        wrong("mean(7, true)", 2, x -> x.mean(7, true));
        slopeAsked("all(1, false)", 0, x -> x.all(1, false));
        slopeAsked("all(0, true)", 1, x -> x.all(0, true));
        wrong("all(7, true)", 2, x -> x.all(7, true));
        slopeAsked("doubt(2, 1, false)", 1, x -> x.doubt(2, 1, false));
        wrong("doubt(4, 1, true)", 1, x -> x.doubt(4, 1, true));
        wrong("doubt(2, 7, true)", 2, x -> x.doubt(2, 7, true));
        // The seed 0 draws 74: of four rows it is cot, 13 then, less 8, with 1 more for ash.
        slopeAsked("grafted(2, 0, 1)", 6, x -> x.grafted(2, 0, 1));
        wrong("grafted(4, 0, 1)", 1, x -> x.grafted(4, 0, 1));
        wrong("grafted(2, 65537, 1)", 2, x -> x.grafted(2, 65537, 1));
        slopeAsked("graftDoubters(0, 1)", 4, x -> x.graftDoubters(0, 1));
        wrong("graftDoubters(0, 41)", 2, x -> x.graftDoubters(0, 41));
        slopeAsked("graftWhen(2, 0, 1)", 1, x -> x.graftWhen(2, 0, 1));
        wrong("graftWhen(4, 0, 1)", 1, x -> x.graftWhen(4, 0, 1));
        wrong("graftWhen(2, -1, 1)", 2, x -> x.graftWhen(2, -1, 1));
    }

    private static long told(boolean is) {
        return is ? 1 : -1;
    }

    private static void acts() {
        slopeAsked("show(1, true)", 1, x -> told(x.show(1, true)));
        wrong("show(2, true)", 1, x -> told(x.show(2, true)));
        wrong("show(1, false)", 5, x -> told(x.show(1, false)));
        slopeAsked("put(1, true)", 1, x -> told(x.put(1, true)));
        wrong("put(2, true)", 1, x -> told(x.put(2, true)));
        wrong("put(1, false)", 5, x -> told(x.put(1, false)));
        slopeAsked("day()", 4, x -> x.day());
        slopeAsked("image()", 0, x -> x.image());
        wrong("back(0)", 1, x -> told(x.back(0)));
        without("back(0)", 1, x -> told(x.back(0)));
        without("undo()", 6, x -> told(x.undo()));
        NorthVines x = Check.vines(TEXT);
        x.day();
        x.image();
        x.row(9, 9);
        Check.due("undo() behind a trouble", x.undo(), true);
        Check.due("trouble() of undo()", x.trouble(), 0);
        x.row(9, 9);
        Check.due("back(0) behind a trouble", x.back(0), true);
        Check.due("trouble() of back(0)", x.trouble(), 0);
        x.image();
        x.image();
        Check.due("image() too many", x.image(), -1);
        Check.due("trouble() of image()", x.trouble(), 3);
    }

    private static void slope() {
        NorthVines x = new NorthVines();
        x.undo();
        Check.feed(x, TEXT);
        Check.due("slope() behind a trouble", x.slope(TEXT.length()), 4);
        Check.due("trouble() of slope()", x.trouble(), 0);
        Check.due("slope(1) of an empty tape", x.slope(1), -1);
        Check.due("trouble() of slope(1)", x.trouble(), 2);
        Check.due("a bad text", Check.read(x, "slopes"), -1);
        Check.due("trouble() of a bad text", x.trouble(), 4);
    }
}
