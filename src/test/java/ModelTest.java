import java.util.ArrayDeque;
import java.util.ArrayList;
import java.util.Deque;
import java.util.List;
import java.util.Random;
import java.util.Set;
import java.util.TreeSet;

/** Compares the program with the model on slopes, acts and texts that are drawn, always the same. */
public final class ModelTest {
    private static final Random RANDOM = new Random(20261118);
    private static final String[] WORDS = ("slope row sees wall sign rumour doubted believed bears hail plain old new deaf faith"
            + " grapes by costs day a b c 0 1 9 10 20 21 30 31 99 100 101 1000 ; ; ; abcdefghi ! A").split(" ");

    private static String text;
    /** Whether what is told is little and of days round the last that may be, so that it often evens out there. */
    private static boolean late;

    public static void main(String[] args) {
        for (int i = 0; i < 220; i++) {
            runs();
        }
        late = true;
        for (int i = 0; i < 220; i++) {
            runs();
        }
        late = false;
        for (int i = 0; i < 6000; i++) {
            brokenText();
        }
        Check.end("ModelTest");
    }

    private static int draw(int least, int most) {
        return least + RANDOM.nextInt(most - least + 1);
    }

    private static int toldDay() {
        return late ? draw(18, 20) : draw(0, draw(0, 20));
    }

    private static int toldFaith() {
        return late && draw(0, 1) == 0 ? draw(1, 3) : draw(1, draw(1, 20));
    }

    private static int ahead(Model.Now now) {
        return late ? Math.max(0, draw(19, 25) - now.day()) : draw(0, draw(0, 40));
    }

    // ---- texts

    private static String slope() {
        StringBuilder s = new StringBuilder("slope bears " + draw(0, 20) + " hail " + draw(0, 4) * 25);
        int rows = draw(1, late ? 4 : 7);
        String kinds = "plain old new deaf plain plain";
        for (int r = 0; r < rows; r++) {
            s.append(";row ").append(name(r)).append(' ').append(kinds.split(" ")[draw(0, 5)])
                    .append(" faith ").append(draw(0, 4) == 0 ? draw(0, 30) : draw(8, 18)).append(" grapes ").append(draw(0, 40));
        }
        Set<String> sights = new TreeSet<>();
        for (int i = draw(0, 14); i > 0 && sights.size() < 10 && rows > 1; i--) {
            int a = draw(0, rows - 1);
            int b = draw(0, rows - 1);
            if (a != b && sights.add(name(a) + " " + name(b))) {
                s.append(";sees ").append(name(a)).append(' ').append(name(b)).append(" by ").append(late ? 1 : draw(1, draw(1, 9)));
            }
        }
        int walls = 0;
        List<String> shuffled = new ArrayList<>(sights);
        java.util.Collections.shuffle(shuffled, RANDOM);
        for (String sight : shuffled) {
            if (walls < 5 && draw(0, 2) > 0) {
                s.append(";wall ").append(sight).append(" costs ").append(draw(0, draw(0, 9)));
                walls++;
            }
        }
        for (int i = draw(0, 6); i > 0; i--) {
            s.append(";sign ").append(name(draw(0, rows - 1))).append(' ').append(toldFaith())
                    .append(" costs ").append(draw(0, draw(0, 9))).append(" day ").append(toldDay());
        }
        for (int i = draw(0, 5); i > 0; i--) {
            s.append(";rumour ").append(name(draw(0, rows - 1))).append(' ').append(toldFaith())
                    .append(" day ").append(toldDay());
        }
        Set<String> seen = new TreeSet<>();
        for (int i = draw(0, draw(0, 5)); i > 0; i--) {
            String what = name(draw(0, rows - 1)) + " day " + toldDay();
            if (seen.add(what)) {
                s.append(draw(0, 1) == 0 ? ";doubted " : ";believed ").append(what);
            }
        }
        return s.length() <= 900 ? s.toString() : slope();
    }

    private static String name(int r) {
        return "abcdefg".substring(r, r + 1);
    }

    private static void brokenText() {
        String broken = slope();
        for (int i = draw(1, 2); i > 0; i--) {
            broken = breakIt(broken);
        }
        if (broken.length() > 900) {
            return;
        }
        NorthVines x = new NorthVines();
        Check.feed(x, broken);
        // What stands behind the part that is read must not matter.
        broken = draw(0, 2) == 0 ? broken.substring(0, draw(0, broken.length())) : broken;
        int got = x.slope(broken.length());
        try {
            Model model = Model.read(broken);
            Check.due("slope of " + broken, got, model.rows.size());
            Check.due("fault of " + broken, x.fault(), 0);
        } catch (Model.Fault fault) {
            Check.due("slope of " + broken, got, -1);
            Check.due("fault of " + broken, x.fault(), fault.number);
            Check.due("where of " + broken, x.where(), fault.place);
        }
    }

    private static String breakIt(String whole) {
        String[] tokens = whole.replace(";", " ; ").trim().split(" +");
        int at = draw(0, draw(0, tokens.length - 1));
        if (draw(0, 1) == 0) {
            at = draw(0, tokens.length - 1);
        }
        switch (draw(0, 6)) {
            case 0:
                tokens[at] = "";
                break;
            case 1:
                tokens[at] = tokens[at] + " " + tokens[at];
                break;
            case 2:
                tokens[at] = WORDS[draw(0, WORDS.length - 1)];
                break;
            case 3:
                tokens[at] = tokens[at] + " " + WORDS[draw(0, WORDS.length - 1)];
                break;
            case 4:
                tokens[at] = tokens[draw(0, tokens.length - 1)];
                break;
            case 5:
                return whole.substring(0, draw(0, whole.length()));
            default:
                String[] lines = whole.split(";");
                int line = draw(0, lines.length - 1);
                lines[line] = lines[draw(0, lines.length - 1)] + (draw(0, 1) == 0 ? "" : ";" + lines[line]);
                return String.join(";", lines);
        }
        return String.join(draw(0, 9) == 0 ? "" : " ", tokens);
    }

    // ---- runs

    /** Half of the late ones are drawn until DAY 20 changes nothing and DAY 21 something. */
    private static String slopeForRuns() {
        String drawn = slope();
        for (int i = late && draw(0, 1) == 0 ? 2000 : 0; i > 0 && !evensOut(drawn); i--) {
            drawn = slope();
        }
        return drawn;
    }

    private static boolean evensOut(String drawn) {
        try {
            Model model = Model.read(drawn);
            Model.Now behind19 = model.ahead(model.beginning(Set.of(), Set.of()), 20);
            Model.Now behind20 = model.pass(behind19);
            return behind19.faith().equals(behind20.faith()) && !behind20.faith().equals(model.pass(behind20).faith());
        } catch (Model.Fault fault) {
            return false;
        }
    }

    private static void runs() {
        text = slopeForRuns();
        Model model;
        try {
            model = Model.read(text);
        } catch (Model.Fault fault) {
            Check.due("fault of " + text, fault.number, 0);
            return;
        }
        NorthVines x = new NorthVines();
        Check.due("slope of " + text, Check.read(x, text), model.rows.size());
        Model.Now now = model.beginning(Set.of(), Set.of());
        Deque<Model.Now> past = new ArrayDeque<>();
        List<Model.Now> images = new ArrayList<>();
        ask(x, model, now);
        // Hail is asked for six days at most: days go by, some of them, until the late ones are near.
        for (int i = late ? draw(0, 19) : 0; i > 0; i--) {
            past.addLast(now);
            now = model.pass(now);
            due("day()", x.day(), Model.bits(model.doubters(now)));
        }
        while (past.size() > 16) {
            past.removeFirst();
        }
        for (int turn = 0; turn < 3; turn++) {
            for (int i = draw(1, 7); i > 0; i--) {
                now = act(x, model, now, past, images);
            }
            Check.due("acts", x.size(9), past.size());
            Check.due("images", x.size(10), images.size());
            ask(x, model, now);
        }
    }

    private static Model.Now act(NorthVines x, Model model, Model.Now now, Deque<Model.Now> past, List<Model.Now> images) {
        Model.Now next = now;
        int k = draw(0, 5);
        boolean is = draw(0, 3) > 0;
        switch (draw(0, 7)) {
            case 0:
            case 1:
                boolean showable = k < model.signs.size() && now.shown().contains(k) != is;
                due("show(" + k + ")", x.show(k, is) ? 1 : 0, showable ? 1 : 0);
                if (showable) {
                    next = new Model.Now(now.faith(), now.day(), changed(now.shown(), k, is), now.up());
                }
                break;
            case 2:
            case 3:
                boolean putable = k < model.walls.size() && now.up().contains(k) != is;
                due("put(" + k + ")", x.put(k, is) ? 1 : 0, putable ? 1 : 0);
                if (putable) {
                    next = new Model.Now(now.faith(), now.day(), now.shown(), changed(now.up(), k, is));
                }
                break;
            case 4:
            case 5:
                next = model.pass(now);
                due("day()", x.day(), Model.bits(model.doubters(next)));
                break;
            case 6:
                due("undo()", x.undo() ? 1 : 0, past.isEmpty() ? 0 : 1);
                return past.isEmpty() ? now : past.removeLast();
            default:
                if (draw(0, 1) == 0) {
                    due("image()", x.image(), images.size() < 3 ? images.size() : -1);
                    if (images.size() < 3) {
                        images.add(now);
                    }
                    return now;
                }
                due("back(" + k + ")", x.back(k) ? 1 : 0, k < images.size() ? 1 : 0);
                if (k < images.size()) {
                    past.clear();
                    return images.get(k);
                }
                return now;
        }
        if (next != now) {
            past.addLast(now);
            if (past.size() > 16) {
                past.removeFirst();
            }
        }
        return next;
    }

    private static Set<Integer> changed(Set<Integer> set, int k, boolean is) {
        return is ? Model.union(set, Set.of(k)) : Model.without(set, Set.of(k));
    }

    private static void due(String call, long got, long want) {
        Check.due(got == want ? "" : call + " on " + text, got, want);
    }

    private static void ask(NorthVines x, Model m, Model.Now now) {
        askNow(x, m, now);
        askDays(x, m, now);
        askChoices(x, m, now);
        askSource(x, m, now);
        askParties(x, m, now);
        askChance(x, m, now);
        due("trouble()", x.trouble(), 0);
    }

    private static void askNow(NorthVines x, Model m, Model.Now now) {
        int weakest = 0;
        int led = 0;
        for (int r = 0; r < m.rows.size(); r++) {
            weakest = now.faith().get(r) < now.faith().get(weakest) ? r : weakest;
            due("row(" + r + ", 0)", x.row(r, 0), List.of("plain", "old", "new", "deaf").indexOf(m.rows.get(r).kind()));
            due("row(" + r + ", 1)", x.row(r, 1), now.faith().get(r));
            due("row(" + r + ", 2)", x.row(r, 2), Model.doubts(now, r) ? 1 : 0);
            due("row(" + r + ", 3)", x.row(r, 3), m.grapes(now, r));
            Set<Integer> seen = new TreeSet<>();
            Set<Integer> seers = new TreeSet<>();
            for (Model.Sight s : m.sees) {
                if (s.seer() == r && m.isOpen(s, now.up())) {
                    seen.add(s.seen());
                }
                if (s.seen() == r && m.isOpen(s, now.up())) {
                    seers.add(s.seer());
                }
            }
            due("row(" + r + ", 4)", x.row(r, 4), Model.bits(seen));
            due("row(" + r + ", 5)", x.row(r, 5), Model.bits(seers));
            if (Model.doubts(now, r)) {
                due("led(" + led + ")", x.led(led), r);
                led++;
            }
        }
        Check.dueThrow("led(" + led + ")", x, led);
        for (int k = 0; k < m.signs.size(); k++) {
            due("sign", x.sign(k, draw(0, 0)), m.signs.get(k).row());
            due("sign", x.sign(k, 4), now.shown().contains(k) ? 1 : 0);
        }
        for (int k = 0; k < m.walls.size(); k++) {
            due("wall", x.wall(k, 1), m.walls.get(k).second());
            due("wall", x.wall(k, 3), now.up().contains(k) ? 1 : 0);
        }
        due("doubters()", x.doubters(), Model.bits(m.doubters(now)));
        due("grapes()", x.grapes(), m.grapes(now));
        due("weakest()", x.weakest(), weakest);
        due("spent()", x.spent(), m.coins(false, now.shown()) + m.coins(true, now.up()));
        due("size(8)", x.size(8), now.day());
    }

    private static void askDays(NorthVines x, Model m, Model.Now now) {
        int r = draw(0, m.rows.size() - 1);
        int n = ahead(now);
        due("faithIn(" + r + ", " + n + ")", x.faithIn(r, n), m.ahead(now, n).faith().get(r));
        due("doubtersIn(" + n + ")", x.doubtersIn(n), Model.bits(m.doubters(m.ahead(now, n))));
        due("when(" + r + ")", x.when(r), m.when(now, r));
        due("first()", x.first(), m.first(now));
        due("worstDay()", x.worstDay(), m.worstDay(now));
        due("still()", x.still(), m.still(now));
        due("harvest(" + n + ")", x.harvest(n), m.harvest(now, n));
        due("reach(" + r + ")", x.reach(r), m.reach(r, now.up()));
        due("cut(" + r + ")", x.cut(r), m.cut(r, now.up()));
    }

    private static void askChoices(NorthVines x, Model m, Model.Now now) {
        int r = draw(0, m.rows.size() - 1);
        int n = ahead(now);
        Set<Integer> all = Model.range(m.rows.size());
        Set<Integer> feigned = m.choice(now, false, all, n);
        due("feign(" + n + ")", x.feign(n), feigned == null ? -2 : m.coins(false, feigned));
        due("feignSigns(" + n + ")", x.feignSigns(n), feigned == null ? -2 : Model.bits(feigned));
        Set<Integer> forOne = m.choice(now, false, Set.of(r), n);
        due("feignFor(" + r + ", " + n + ")", x.feignFor(r, n), forOne == null ? -2 : m.coins(false, forOne));
        due("bestSign(" + n + ")", x.bestSign(n), m.bestSign(now, n));
        Set<Integer> up = m.choice(now, true, all, n);
        due("walls(" + n + ")", x.walls(n), up == null ? -2 : m.coins(true, up));
        due("wallsUp(" + n + ")", x.wallsUp(n), up == null ? -2 : Model.bits(up));
    }

    private static void askSource(NorthVines x, Model m, Model.Now now) {
        List<Set<Integer>> fitting = m.fitting(now);
        Set<Integer> some = new TreeSet<>();
        Set<Integer> every = fitting.isEmpty() ? new TreeSet<>() : m.allRumours();
        for (Set<Integer> set : fitting) {
            some.addAll(set);
            every.retainAll(set);
        }
        due("sets()", x.sets(), fitting.size());
        int i = draw(0, 4);
        due("setAt(" + i + ")", x.setAt(i), i < fitting.size() ? Model.bits(fitting.get(i)) : -1);
        due("could()", x.could(), Model.bits(some));
        due("surely()", x.surely(), Model.bits(every));
        int[] look = m.look(now);
        due("look()", x.look(), look[0]);
        due("lookLeaves()", x.lookLeaves(), look[1]);
        due("judge()", x.judge(), m.judge(now));
    }

    private static void askParties(NorthVines x, Model m, Model.Now now) {
        int n = ahead(now);
        int best = 0;
        for (int r = 1; r < m.rows.size(); r++) {
            best = m.tellMost(now, r, n) > m.tellMost(now, best, n) ? r : best;
        }
        due("tell(" + n + ")", x.tell(n), best);
        due("tellMost(" + n + ")", x.tellMost(n), m.tellMost(now, best, n));
        int[] game = m.valueAndTake(now, n);
        due("value(" + n + ")", x.value(n), game[0]);
        due("take(" + n + ")", x.take(n), game[1]);
    }

    private static void askChance(NorthVines x, Model m, Model.Now now) {
        int r = draw(0, m.rows.size() - 1);
        int n = draw(0, 6);
        for (boolean lower : new boolean[] {false, true}) {
            due("mean(" + n + ")", x.mean(n, lower),
                    m.hailedTerm(now, n, s -> m.rows.size() - m.doubters(s).size(), lower));
            due("all(" + n + ")", x.all(n, lower), m.hailedTerm(now, n, s -> m.doubters(s).isEmpty() ? 1 : 0, lower));
            due("doubt(" + r + ", " + n + ")", x.doubt(r, n, lower),
                    m.hailedTerm(now, n, s -> Model.doubts(s, r) ? 1 : 0, lower));
        }
        int seed = draw(0, 65536);
        int days = late ? ahead(now) : draw(0, 40);
        List<Model.Now> grafted = m.grafted(now, seed, days);
        int when = 0;
        for (int i = days; i >= 1; i--) {
            when = Model.doubts(grafted.get(i), r) ? i : when;
        }
        due("grafted(" + r + ", " + seed + ", " + days + ")", x.grafted(r, seed, days), grafted.get(days).faith().get(r));
        due("graftDoubters(" + seed + ", " + days + ")", x.graftDoubters(seed, days), Model.bits(m.doubters(grafted.get(days))));
        due("graftWhen(" + r + ", " + seed + ", " + days + ")", x.graftWhen(r, seed, days), when);
    }
}
