import java.util.ArrayList;
import java.util.LinkedHashMap;
import java.util.List;
import java.util.Map;
import java.util.NoSuchElementException;
import java.util.Random;

/**
 * Any arguments in any state: calls that are drawn, always the same, most of them with numbers that are none of
 * anything. No call but led throws; each is refused by a number that its promise tells, or not at all; NONE and false
 * are answered where it is refused, and nowhere else; and what is refused changes nothing.
 */
public final class AnyTest {
    private static final Random RANDOM = new Random(9);
    private static final int[] NUMBERS = {Integer.MIN_VALUE, Integer.MIN_VALUE + 1, -65537, -41, -2, -1, 0, 0, 0, 1, 1, 2, 3, 4, 5, 6, 7,
        8, 9, 10, 11, 12, 16, 20, 21, 31, 32, 33, 39, 40, 41, 63, 64, 255, 899, 900, 901, 65535, 65536, 65537, 1 << 30,
        Integer.MAX_VALUE - 1, Integer.MAX_VALUE};
    private static final String[] TEXTS = {"", "slope bears 1 hail 0", Edge.ONE, Edge.MOST, Edge.ONE + ";", Edge.MOST + ";row",
        Edge.slope("0 0", "a plain 0 0"), Edge.slope("99 100", "a deaf 30 99", "b new 9 3") + ";sees b a by 9;rumour b 20 day 20"};

    private interface Call {
        long on(NorthVines x, int a, int b, int c);
    }

    private static final Map<String, Call> CALLS = new LinkedHashMap<>();
    /** The numbers by which each may be refused. */
    private static final Map<String, String> REFUSALS = new LinkedHashMap<>();

    public static void main(String[] args) {
        calls();
        Check.due("calls of the face that may be refused", CALLS.size(), 46);
        for (int i = 0; i < 300; i++) {
            run();
        }
        Check.end("AnyTest");
    }

    private static void call(String name, String refusals, Call call) {
        CALLS.put(name, call);
        REFUSALS.put(name, refusals);
    }

    private static long told(boolean is) {
        return is ? 1 : -1;
    }

    private static void calls() {
        call("slope", "24", (x, a, b, c) -> x.slope(a));
        call("row", "1", (x, a, b, c) -> x.row(a, b));
        call("sign", "1", (x, a, b, c) -> x.sign(a, b));
        call("wall", "1", (x, a, b, c) -> x.wall(a, b));
        call("doubters", "1", (x, a, b, c) -> x.doubters());
        call("grapes", "1", (x, a, b, c) -> x.grapes());
        call("weakest", "1", (x, a, b, c) -> x.weakest());
        call("spent", "1", (x, a, b, c) -> x.spent());
        call("faithIn", "12", (x, a, b, c) -> x.faithIn(a, b));
        call("doubtersIn", "12", (x, a, b, c) -> x.doubtersIn(a));
        call("when", "1", (x, a, b, c) -> x.when(a));
        call("first", "1", (x, a, b, c) -> x.first());
        call("worstDay", "1", (x, a, b, c) -> x.worstDay());
        call("still", "1", (x, a, b, c) -> x.still());
        call("harvest", "12", (x, a, b, c) -> x.harvest(a));
        call("reach", "1", (x, a, b, c) -> x.reach(a));
        call("feign", "12", (x, a, b, c) -> x.feign(a));
        call("feignSigns", "12", (x, a, b, c) -> x.feignSigns(a));
        call("feignFor", "12", (x, a, b, c) -> x.feignFor(a, b));
        call("bestSign", "12", (x, a, b, c) -> x.bestSign(a));
        call("walls", "12", (x, a, b, c) -> x.walls(a));
        call("wallsUp", "12", (x, a, b, c) -> x.wallsUp(a));
        call("cut", "1", (x, a, b, c) -> x.cut(a));
        call("sets", "1", (x, a, b, c) -> x.sets());
        call("setAt", "1", (x, a, b, c) -> x.setAt(a));
        call("could", "1", (x, a, b, c) -> x.could());
        call("surely", "1", (x, a, b, c) -> x.surely());
        call("look", "1", (x, a, b, c) -> x.look());
        call("lookLeaves", "1", (x, a, b, c) -> x.lookLeaves());
        call("judge", "1", (x, a, b, c) -> x.judge());
        call("tell", "12", (x, a, b, c) -> x.tell(a));
        call("tellMost", "12", (x, a, b, c) -> x.tellMost(a));
        call("value", "12", (x, a, b, c) -> x.value(a));
        call("take", "12", (x, a, b, c) -> x.take(a));
        call("mean", "12", (x, a, b, c) -> x.mean(a, b % 2 == 0));
        call("all", "12", (x, a, b, c) -> x.all(a, b % 2 == 0));
        call("doubt", "12", (x, a, b, c) -> x.doubt(a, b, c % 2 == 0));
        call("grafted", "12", (x, a, b, c) -> x.grafted(a, b, c));
        call("graftDoubters", "12", (x, a, b, c) -> x.graftDoubters(a, b));
        call("graftWhen", "12", (x, a, b, c) -> x.graftWhen(a, b, c));
        call("show", "15", (x, a, b, c) -> told(x.show(a, b % 2 == 0)));
        call("put", "15", (x, a, b, c) -> told(x.put(a, b % 2 == 0)));
        call("day", "13", (x, a, b, c) -> x.day());
        call("undo", "6", (x, a, b, c) -> told(x.undo()));
        call("image", "13", (x, a, b, c) -> x.image());
        call("back", "1", (x, a, b, c) -> told(x.back(a)));
    }

    private static int number() {
        return NUMBERS[RANDOM.nextInt(NUMBERS.length)];
    }

    private static void run() {
        NorthVines x = new NorthVines();
        List<String> names = new ArrayList<>(CALLS.keySet());
        for (int i = 0; i < 60; i++) {
            int kind = RANDOM.nextInt(12);
            if (kind == 0) {
                Check.read(x, TEXTS[RANDOM.nextInt(TEXTS.length)]);
            } else if (kind == 1) {
                neverRefused(x);
            } else {
                ask(x, names.get(RANDOM.nextInt(names.size())));
            }
        }
    }

    private static void ask(NorthVines x, String name) {
        int a = number();
        int b = number();
        int c = number();
        String told = name + "(" + a + ", " + b + ", " + c + ")";
        String before = Edge.picture(x);
        long answer;
        try {
            answer = CALLS.get(name).on(x, a, b, c);
        } catch (RuntimeException e) {
            Check.due(told + " throws " + e, true, false);
            return;
        }
        int trouble = x.trouble();
        Check.due(told + ", trouble() " + trouble + " is one of its own",
                trouble == 0 || REFUSALS.get(name).contains("" + trouble), true);
        Check.due(told + " answers " + answer + " by trouble " + trouble, answer == -1, trouble != 0);
        Check.due(told + ", where()", x.where() >= 0, trouble == 4);
        if (trouble != 0 && trouble != 4) {
            Check.due(told + " leaves all as it was", Edge.picture(x).equals(before), true);
        }
    }

    private static void neverRefused(NorthVines x) {
        Edge.picture(x);
        int trouble = x.trouble();
        int fault = x.fault();
        int what = number();
        int i = number();
        try {
            Check.due("size(" + what + ")", x.size(what) == -1, what < 0 || what > 11);
            Check.due("fault()", fault >= 0 && fault <= 7, true);
            int fed = x.size(11);
            Check.due("feed", x.feed(what, i, what, i, what), fed + 20 > 900 ? -1 : fed + 20);
            int doubters = x.size(2) == 0 ? 0 : Integer.bitCount(x.doubters());
            Check.due("led(" + i + ")", isLed(x, i), i >= 0 && i < doubters);
        } catch (RuntimeException e) {
            Check.due("size, feed or led throws " + e, true, false);
        }
        Check.due("fault() stays", x.fault(), fault);
        Check.due("trouble() stays, or is that of doubters()", x.trouble(), x.size(2) == 0 ? trouble : 0);
    }

    private static boolean isLed(NorthVines x, int i) {
        try {
            return x.row(x.led(i), 2) == 1;
        } catch (NoSuchElementException e) {
            return false;
        }
    }
}
