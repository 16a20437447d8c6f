import java.io.IOException;
import java.nio.file.Files;
import java.nio.file.Path;
import java.util.LinkedHashMap;
import java.util.Map;
import java.util.Set;
import java.util.TreeSet;
import java.util.function.ToLongFunction;

/**
 * What the tests of edges share. Each of their tests quotes the sentence of the document that it is there for, and
 * the quote is looked up in the document, so that none is for a sentence that isn't told.
 */
final class Edge {
    /** Numbers that are none of anything, however many there are. */
    static final int[] FAR = {-1, Integer.MIN_VALUE, Integer.MAX_VALUE, -2, 64, 1 << 16 | 1};
    /** Numbers of DAYS that are too small or too large where 0 .. 40 are right. */
    static final int[] NO_DAYS = {-1, 41, Integer.MIN_VALUE, Integer.MAX_VALUE};

    /** One of each sort: every call that may be refused has an answer on it. */
    static final String ONE = slope("5 50", "a plain 12 30", "b plain 9 20") + ";sees a b by 1;wall a b costs 3"
            + ";sign b 2 costs 4 day 0;rumour a 1 day 0;believed a day 0";

    /** Two or more of each sort, on which no two questions have much the same answers. */
    static final String RICH = slope("10 50", "ash plain 14 30", "bay old 12 20", "cot new 16 5", "dip deaf 11 40")
            + ";sees ash bay by 3;sees bay cot by 4;sees cot ash by 2;sees dip cot by 5;wall bay cot costs 7;wall dip cot costs 9"
            + ";sign cot 6 costs 5 day 0;sign ash 4 costs 3 day 2;rumour cot 4 day 0;rumour bay 3 day 1"
            + ";believed bay day 0;doubted cot day 0";

    /** As many of each sort as there is room for, with all numbers as high as they may be. */
    static final String MOST = slope("99 100", "a plain 30 99", "b plain 30 99", "c plain 30 99", "d plain 30 99",
            "e plain 30 99", "f plain 30 99", "g plain 30 99")
            + ";sees a b by 9;sees b c by 9;sees c d by 9;sees d e by 9;sees e f by 9;sees f g by 9;sees g a by 9"
            + ";sees b a by 9;sees c b by 9;sees g f by 9;wall a b costs 99;wall b c costs 99;wall g a costs 99"
            + ";wall b a costs 99;wall g f costs 99"
            + ";sign a 20 costs 99 day 20".repeat(6) + ";rumour g 20 day 20".repeat(5)
            + ";believed a day 20;believed b day 20;believed c day 20;believed d day 20;doubted g day 20";

    private static final Map<String, String> PARTS = parts();
    private static final Set<String> QUOTED = new TreeSet<>();

    private Edge() {
    }

    /** The sentence, of a Term (I to IV) or of a Promise (1 to 53), that what is asked behind this is there for. */
    static void of(String part, String sentence) {
        Check.about(part + " '" + sentence + "'");
        QUOTED.add(part);
        if (!PARTS.isEmpty()) {
            Check.due("it is told there", PARTS.getOrDefault(part, "").contains(sentence), true);
        }
    }

    /** That each of these Promises had a sentence. */
    static void covered(int from, int to) {
        Check.about("covered");
        for (int promise = from; promise <= to; promise++) {
            Check.due("promise " + promise, QUOTED.contains("" + promise), true);
        }
    }

    private static Map<String, String> parts() {
        Map<String, String> parts = new LinkedHashMap<>();
        Path document = Path.of("../shared/DOC.md");
        if (!Files.exists(document)) {
            System.out.println("no document to look quotes up in");
            return parts;
        }
        try {
            String part = "";
            for (String line : Files.readAllLines(document)) {
                if (line.startsWith("## Promise ")) {
                    part = line.substring(11, line.indexOf(':'));
                } else if (line.startsWith("## ")) {
                    part = "";
                } else if (line.matches("(I|II|III|IV)\\. .*")) {
                    part = line.substring(0, line.indexOf('.'));
                }
                parts.merge(part, line.strip(), (a, b) -> a + " " + b);
            }
        } catch (IOException e) {
            throw new IllegalStateException(e);
        }
        return parts;
    }

    /** The text of a slope: what it bears and the hail, then of each row its name, kind, faith and grapes. */
    static String slope(String bearsAndHail, String... rows) {
        StringBuilder text = new StringBuilder("slope bears ").append(bearsAndHail.replace(" ", " hail "));
        for (String row : rows) {
            String[] parts = row.split(" ");
            text.append(";row ").append(parts[0]).append(' ').append(parts[1]);
            text.append(" faith ").append(parts[2]).append(" grapes ").append(parts[3]);
        }
        return text.toString();
    }

    /** Every call that may be refused by 1 without a SLOPE, with arguments that are right on ONE. */
    static Map<String, ToLongFunction<NorthVines>> calls() {
        Map<String, ToLongFunction<NorthVines>> calls = new LinkedHashMap<>();
        calls.put("row", x -> x.row(0, 0));
        calls.put("sign", x -> x.sign(0, 0));
        calls.put("wall", x -> x.wall(0, 0));
        calls.put("doubters", x -> x.doubters());
        calls.put("grapes", x -> x.grapes());
        calls.put("weakest", x -> x.weakest());
        calls.put("spent", x -> x.spent());
        calls.put("faithIn", x -> x.faithIn(0, 0));
        calls.put("doubtersIn", x -> x.doubtersIn(0));
        calls.put("when", x -> x.when(0));
        calls.put("first", x -> x.first());
        calls.put("worstDay", x -> x.worstDay());
        calls.put("still", x -> x.still());
        calls.put("harvest", x -> x.harvest(0));
        calls.put("reach", x -> x.reach(0));
        calls.put("feign", x -> x.feign(0));
        calls.put("feignSigns", x -> x.feignSigns(0));
        calls.put("feignFor", x -> x.feignFor(0, 0));
        calls.put("bestSign", x -> x.bestSign(0));
        calls.put("walls", x -> x.walls(0));
        calls.put("wallsUp", x -> x.wallsUp(0));
        calls.put("cut", x -> x.cut(0));
        calls.put("sets", x -> x.sets());
        calls.put("setAt", x -> x.setAt(0));
        calls.put("could", x -> x.could());
        calls.put("surely", x -> x.surely());
        calls.put("look", x -> x.look());
        calls.put("lookLeaves", x -> x.lookLeaves());
        calls.put("judge", x -> x.judge());
        calls.put("tell", x -> x.tell(0));
        calls.put("tellMost", x -> x.tellMost(0));
        calls.put("value", x -> x.value(0));
        calls.put("take", x -> x.take(0));
        calls.put("mean", x -> x.mean(0, false));
        calls.put("all", x -> x.all(0, false));
        calls.put("doubt", x -> x.doubt(0, 0, false));
        calls.put("grafted", x -> x.grafted(0, 0, 0));
        calls.put("graftDoubters", x -> x.graftDoubters(0, 0));
        calls.put("graftWhen", x -> x.graftWhen(0, 0, 0));
        calls.put("show", x -> x.show(0, true) ? 1 : -1);
        calls.put("put", x -> x.put(0, true) ? 1 : -1);
        calls.put("day", x -> x.day());
        calls.put("image", x -> x.image());
        calls.put("back", x -> x.back(0) ? 1 : -1);
        return calls;
    }

    /** That a call of this name is refused by 1 without a SLOPE, behind no TROUBLE and behind another one. */
    static void withoutSlope(String name) {
        ToLongFunction<NorthVines> call = calls().get(name);
        NorthVines fresh = new NorthVines();
        Check.refused(name + " on a new object", fresh, call.applyAsLong(fresh), 1);
        NorthVines troubled = new NorthVines();
        troubled.undo();
        Check.refused(name + " behind a trouble", troubled, call.applyAsLong(troubled), 1);
        NorthVines faulty = new NorthVines();
        Check.read(faulty, "slope bears 1 hail 1");
        Check.refused(name + " behind a text with a fault", faulty, call.applyAsLong(faulty), 1);
    }

    /** What can be seen of how things are, so that it can be told whether a call changed any of it. */
    static String picture(NorthVines x) {
        StringBuilder seen = new StringBuilder();
        for (int what = 0; what <= 11; what++) {
            seen.append(x.size(what)).append(' ');
        }
        for (int r = 0; r < x.size(2); r++) {
            seen.append(x.row(r, 1)).append('/').append(x.row(r, 4)).append(' ');
        }
        for (int k = 0; k < x.size(5); k++) {
            seen.append(x.sign(k, 4));
        }
        for (int k = 0; k < x.size(4); k++) {
            seen.append(x.wall(k, 3));
        }
        return seen.toString();
    }

    /** What all questions answer, some of them for a few DAYS: 512 calls are enough to ask this three times of RICH. */
    static String answers(NorthVines x) {
        StringBuilder all = new StringBuilder(picture(x));
        for (int r = 0; r < x.size(2); r++) {
            for (int what = 0; what <= 5; what++) {
                all.append(' ').append(x.row(r, what));
            }
            all.append(' ').append(x.faithIn(r, 3)).append(' ').append(x.when(r)).append(' ').append(x.reach(r));
            all.append(' ').append(x.feignFor(r, 3)).append(' ').append(x.cut(r)).append(' ').append(x.doubt(r, 2, false));
            all.append(' ').append(x.grafted(r, 872, 3)).append(' ').append(x.graftWhen(r, 872, 9)).append(';');
        }
        for (int k = 0; k < x.size(5); k++) {
            all.append(' ').append(x.sign(k, 0)).append(' ').append(x.sign(k, 1)).append(' ').append(x.sign(k, 2)).append(' ').append(x.sign(k, 3));
        }
        for (int k = 0; k < x.size(4); k++) {
            all.append(' ').append(x.wall(k, 0)).append(' ').append(x.wall(k, 1)).append(' ').append(x.wall(k, 2));
        }
        all.append(';').append(x.doubters()).append(' ').append(x.grapes()).append(' ').append(x.weakest()).append(' ').append(x.spent());
        all.append(' ').append(x.doubtersIn(3)).append(' ').append(x.first()).append(' ').append(x.worstDay()).append(' ').append(x.still());
        all.append(' ').append(x.harvest(5)).append(' ').append(x.feign(2)).append(' ').append(x.feignSigns(2)).append(' ').append(x.bestSign(2));
        all.append(' ').append(x.walls(3)).append(' ').append(x.wallsUp(3)).append(' ').append(x.sets()).append(' ').append(x.setAt(1));
        all.append(' ').append(x.could()).append(' ').append(x.surely()).append(' ').append(x.look()).append(' ').append(x.lookLeaves());
        all.append(' ').append(x.judge()).append(' ').append(x.tell(2)).append(' ').append(x.tellMost(2)).append(' ').append(x.value(2));
        all.append(' ').append(x.take(2)).append(' ').append(x.mean(2, false)).append(' ').append(x.mean(2, true)).append(' ').append(x.all(2, false));
        return all.append(' ').append(x.graftDoubters(872, 4)).toString();
    }
}
