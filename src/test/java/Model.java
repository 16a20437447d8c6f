import java.math.BigInteger;
import java.util.ArrayList;
import java.util.HashMap;
import java.util.List;
import java.util.Map;
import java.util.Set;
import java.util.TreeSet;

/**
 * The document once more, by its plainest words and with nothing in common with the program: sets
 * and lists instead of bits, recursion instead of tables. Slow, and only there to be compared with.
 */
final class Model {
    record Row(String name, String kind, int faith, int grapes) { }

    record Sight(int seer, int seen, int by) { }

    record Wall(int first, int second, int costs) { }

    record Sign(int row, int tells, int costs, int day) { }

    record Rumour(int row, int tells, int day) { }

    record Seen(int row, boolean doubted, int day) { }

    record Now(List<Integer> faith, int day, Set<Integer> shown, Set<Integer> up) { }

    record Token(String text, int place) { }

    static final class Fault extends Exception {
        private static final long serialVersionUID = 1L;
        final int number;
        final int place;

        Fault(int number, int place) {
            this.number = number;
            this.place = place;
        }
    }

    int bears;
    int hail;
    final List<Row> rows = new ArrayList<>();
    final List<Sight> sees = new ArrayList<>();
    final List<Wall> walls = new ArrayList<>();
    final List<Sign> signs = new ArrayList<>();
    final List<Rumour> rumours = new ArrayList<>();
    final List<Seen> seen = new ArrayList<>();

    // ---- the text

    /** A grammar of each line: a NAME, R a row, S a second row, K a kind, a-b a whole, else a word. */
    private static final Map<String, String> LINES = Map.of(
            "slope", "bears 0-99 hail 0-100",
            "row", "NAME KIND faith 0-30 grapes 0-99",
            "sees", "ROW SECOND by 1-9",
            "wall", "ROW SECOND costs 0-99",
            "sign", "ROW 1-20 costs 0-99 day 0-20",
            "rumour", "ROW 1-20 day 0-20",
            "doubted", "ROW day 0-20",
            "believed", "ROW day 0-20");

    static Model read(String text) throws Fault {
        Model model = new Model();
        List<Token> tokens = tokens(text);
        boolean slopeTold = false;
        int i = 0;
        while (true) {
            Token head = tokens.get(i);
            if (!LINES.containsKey(head.text)) {
                throw new Fault(1, head.place);
            }
            if (head.text.equals("slope") && slopeTold) {
                throw new Fault(3, head.place);
            }
            if (!head.text.equals("slope") && !slopeTold) {
                throw new Fault(6, head.place);
            }
            if (model.countOf(head.text) >= model.roomOf(head.text)) {
                throw new Fault(5, head.place);
            }
            slopeTold = true;
            i = model.readLine(head.text, tokens, i + 1);
            Token behind = tokens.get(i);
            if (behind.text.isEmpty()) {
                if (model.rows.isEmpty()) {
                    throw new Fault(6, behind.place);
                }
                return model;
            }
            if (!behind.text.equals(";")) {
                throw new Fault(1, behind.place);
            }
            i++;
        }
    }

    /** "?" stands for what is no token, and an empty text for the end. */
    private static List<Token> tokens(String text) {
        List<Token> tokens = new ArrayList<>();
        java.util.regex.Matcher m = java.util.regex.Pattern.compile("[a-z]+|[0-9]+|;|[^ ]", java.util.regex.Pattern.DOTALL).matcher(text);
        while (m.find()) {
            String found = m.group();
            boolean good = found.matches("[a-z]{1,8}|[0-9]{1,3}|;");
            tokens.add(new Token(good ? found : "?", m.start()));
        }
        tokens.add(new Token("", text.length()));
        return tokens;
    }

    private int countOf(String line) {
        return switch (line) {
            case "row" -> rows.size();
            case "sees" -> sees.size();
            case "wall" -> walls.size();
            case "sign" -> signs.size();
            case "rumour" -> rumours.size();
            case "slope" -> 0;
            default -> seen.size();
        };
    }

    private int roomOf(String line) {
        return switch (line) {
            case "row" -> 7;
            case "sees" -> 10;
            case "wall", "rumour" -> 5;
            case "sign" -> 6;
            case "slope" -> 1;
            default -> 5;
        };
    }

    private int indexOf(String name) {
        for (int r = 0; r < rows.size(); r++) {
            if (rows.get(r).name.equals(name)) {
                return r;
            }
        }
        return -1;
    }

    private int readLine(String line, List<Token> tokens, int start) throws Fault {
        List<String> got = new ArrayList<>();
        int i = start;
        for (String part : LINES.get(line).split(" ")) {
            Token token = tokens.get(i);
            String t = token.text;
            int number = 0;
            if (part.equals("NAME") || part.equals("ROW") || part.equals("SECOND")) {
                number = !t.matches("[a-z]+") || LINES.containsKey(t) ? 1
                        : part.equals("NAME") ? indexOf(t) >= 0 ? 3 : 0
                        : indexOf(t) < 0 ? 2
                        : part.equals("SECOND") ? secondFault(line, indexOf(got.get(0)), indexOf(t)) : 0;
                got.add(t);
            } else if (part.equals("KIND")) {
                number = t.matches("plain|old|new|deaf") ? 0 : 1;
                got.add(t);
            } else if (part.contains("-")) {
                String[] bounds = part.split("-");
                number = !t.matches("[0-9]+") ? 1
                        : Integer.parseInt(t) < Integer.parseInt(bounds[0]) || Integer.parseInt(t) > Integer.parseInt(bounds[1]) ? 4 : 0;
                got.add(t);
                if (number == 0 && (line.equals("doubted") || line.equals("believed"))) {
                    for (Seen s : seen) {
                        if (s.row == indexOf(got.get(0)) && s.day == Integer.parseInt(t)) {
                            number = 3;
                        }
                    }
                }
            } else {
                number = t.equals(part) ? 0 : 1;
            }
            if (number != 0) {
                throw new Fault(number, token.place);
            }
            i++;
        }
        add(line, got);
        return i;
    }

    private int secondFault(String line, int first, int second) {
        boolean isSeen = sees.stream().anyMatch(s -> s.seer == first && s.seen == second);
        if (first == second) {
            return 3;
        }
        if (line.equals("sees")) {
            return isSeen ? 3 : 0;
        }
        if (walls.stream().anyMatch(w -> w.first == first && w.second == second)) {
            return 3;
        }
        return isSeen ? 0 : 7;
    }

    private void add(String line, List<String> got) {
        switch (line) {
            case "slope" -> {
                bears = whole(got, 0);
                hail = whole(got, 1);
            }
            case "row" -> rows.add(new Row(got.get(0), got.get(1), whole(got, 2), whole(got, 3)));
            case "sees" -> sees.add(new Sight(indexOf(got.get(0)), indexOf(got.get(1)), whole(got, 2)));
            case "wall" -> walls.add(new Wall(indexOf(got.get(0)), indexOf(got.get(1)), whole(got, 2)));
            case "sign" -> signs.add(new Sign(indexOf(got.get(0)), whole(got, 1), whole(got, 2), whole(got, 3)));
            case "rumour" -> rumours.add(new Rumour(indexOf(got.get(0)), whole(got, 1), whole(got, 2)));
            default -> seen.add(new Seen(indexOf(got.get(0)), line.equals("doubted"), whole(got, 1)));
        }
    }

    private static int whole(List<String> got, int i) {
        return Integer.parseInt(got.get(i));
    }

    // ---- days

    Now beginning(Set<Integer> shown, Set<Integer> up) {
        List<Integer> faith = new ArrayList<>();
        for (Row row : rows) {
            faith.add(row.faith);
        }
        return new Now(faith, 0, shown, up);
    }

    boolean isOpen(Sight sight, Set<Integer> up) {
        for (int k : up) {
            if (walls.get(k).first == sight.seer && walls.get(k).second == sight.seen) {
                return false;
            }
        }
        return true;
    }

    Now pass(Now now, Set<Integer> rumoured) {
        List<Integer> next = new ArrayList<>();
        for (int r = 0; r < rows.size(); r++) {
            String kind = rows.get(r).kind;
            int faith = now.faith.get(r);
            int change = 0;
            if (!kind.equals("deaf")) {
                for (int k : now.shown) {
                    Sign sign = signs.get(k);
                    if (sign.row == r && sign.day == now.day) {
                        change += sign.tells;
                    }
                }
                for (int i : rumoured) {
                    Rumour rumour = rumours.get(i);
                    if (rumour.row == r && rumour.day == now.day) {
                        change -= kind.equals("new") ? 2 * rumour.tells
                                : kind.equals("old") ? Math.floorDiv(rumour.tells, 2) : rumour.tells;
                    }
                }
            }
            int less = 0;
            for (Sight sight : sees) {
                if (sight.seer == r && isOpen(sight, now.up)) {
                    int other = now.faith.get(sight.seen);
                    if (other < 10) {
                        less += sight.by;
                    } else if (other > faith) {
                        change++;
                    }
                }
            }
            change -= kind.equals("old") ? Math.floorDiv(less, 2) : less;
            next.add(Math.min(30, Math.max(0, faith + change)));
        }
        return new Now(next, now.day + 1, now.shown, now.up);
    }

    Set<Integer> allRumours() {
        return range(rumours.size());
    }

    static Set<Integer> range(int n) {
        Set<Integer> all = new TreeSet<>();
        for (int i = 0; i < n; i++) {
            all.add(i);
        }
        return all;
    }

    Now pass(Now now) {
        return pass(now, allRumours());
    }

    Now ahead(Now now, int n) {
        return n == 0 ? now : ahead(pass(now), n - 1);
    }

    static boolean doubts(Now now, int r) {
        return now.faith.get(r) < 10;
    }

    Set<Integer> doubters(Now now) {
        Set<Integer> who = new TreeSet<>();
        for (int r = 0; r < rows.size(); r++) {
            if (doubts(now, r)) {
                who.add(r);
            }
        }
        return who;
    }

    static int bits(Set<Integer> set) {
        int bits = 0;
        for (int i : set) {
            bits += 1 << i;
        }
        return bits;
    }

    static Set<Integer> union(Set<Integer> a, Set<Integer> b) {
        Set<Integer> both = new TreeSet<>(a);
        both.addAll(b);
        return both;
    }

    static Set<Integer> without(Set<Integer> a, Set<Integer> b) {
        Set<Integer> rest = new TreeSet<>(a);
        rest.removeAll(b);
        return rest;
    }

    int grapes(Now now, int r) {
        int told = rows.get(r).grapes;
        return doubts(now, r) ? Math.min(bears, told) : told;
    }

    int grapes(Now now) {
        int sum = 0;
        for (int r = 0; r < rows.size(); r++) {
            sum += grapes(now, r);
        }
        return sum;
    }

    int harvest(Now now, int n) {
        int sum = 0;
        for (int i = 1; i <= n; i++) {
            sum += grapes(ahead(now, i));
        }
        return sum;
    }

    int when(Now now, int r) {
        for (int n = 0; n <= 40; n++) {
            if (doubts(ahead(now, n), r)) {
                return n;
            }
        }
        return -2;
    }

    int first(Now now) {
        int best = -2;
        for (int r = rows.size() - 1; r >= 0; r--) {
            if (when(now, r) != -2 && (best == -2 || when(now, r) <= when(now, best))) {
                best = r;
            }
        }
        return best;
    }

    int worstDay(Now now) {
        int worst = 40;
        for (int n = 39; n >= 0; n--) {
            if (doubters(ahead(now, n)).size() >= doubters(ahead(now, worst)).size()) {
                worst = n;
            }
        }
        return worst;
    }

    int still(Now now) {
        for (int n = 0; n <= 40; n++) {
            if (ahead(now, n).faith.equals(ahead(now, n + 1).faith)) {
                return n;
            }
        }
        return -2;
    }

    boolean seesByOthers(int a, int b, Set<Integer> up, Set<Integer> met) {
        for (Sight sight : sees) {
            if (sight.seer == a && isOpen(sight, up) && met.add(sight.seen)) {
                if (sight.seen == b || seesByOthers(sight.seen, b, up, met)) {
                    return true;
                }
            }
        }
        return false;
    }

    int reach(int r, Set<Integer> up) {
        Set<Integer> reached = new TreeSet<>(Set.of(r));
        for (int a = 0; a < rows.size(); a++) {
            if (seesByOthers(a, r, up, new TreeSet<>())) {
                reached.add(a);
            }
        }
        return bits(reached);
    }

    int cut(int r, Set<Integer> up) {
        Set<Integer> best = null;
        for (Set<Integer> more : subsets(without(range(walls.size()), up))) {
            Set<Integer> then = union(up, more);
            boolean unseen = true;
            for (int a = 0; a < rows.size(); a++) {
                unseen &= a == r || !seesByOthers(a, r, then, new TreeSet<>());
            }
            if (unseen && (best == null || more.size() < best.size()
                    || more.size() == best.size() && bits(more) < bits(best))) {
                best = more;
            }
        }
        return best == null ? -2 : bits(best);
    }

    // ---- signs, walls

    static List<Set<Integer>> subsets(Set<Integer> of) {
        List<Set<Integer>> all = new ArrayList<>();
        all.add(new TreeSet<>());
        for (int i : of) {
            for (Set<Integer> set : new ArrayList<>(all)) {
                all.add(union(set, Set.of(i)));
            }
        }
        return all;
    }

    int coins(boolean areWalls, Set<Integer> set) {
        int sum = 0;
        for (int k : set) {
            sum += areWalls ? walls.get(k).costs : signs.get(k).costs;
        }
        return sum;
    }

    /** The best choice, or null. */
    Set<Integer> choice(Now now, boolean areWalls, Set<Integer> wanted, int n) {
        Set<Integer> best = null;
        Set<Integer> free = areWalls ? without(range(walls.size()), now.up) : without(range(signs.size()), now.shown);
        for (Set<Integer> set : subsets(free)) {
            Now with = areWalls ? new Now(now.faith, now.day, now.shown, union(now.up, set))
                    : new Now(now.faith, now.day, union(now.shown, set), now.up);
            Set<Integer> doubting = doubters(ahead(with, n));
            doubting.retainAll(wanted);
            if (doubting.isEmpty() && (best == null || order(areWalls, set) < order(areWalls, best))) {
                best = set;
            }
        }
        return best;
    }

    private int order(boolean areWalls, Set<Integer> set) {
        return coins(areWalls, set) * 10000 + set.size() * 1000 + bits(set);
    }

    int bestSign(Now now, int n) {
        int best = -2;
        int most = 0;
        for (int k : without(range(signs.size()), now.shown)) {
            Now with = new Now(now.faith, now.day, union(now.shown, Set.of(k)), now.up);
            int more = harvest(with, n) - harvest(now, n);
            if (more > most) {
                most = more;
                best = k;
            }
        }
        return best;
    }

    // ---- source

    boolean isSo(Now now, Seen said, Set<Integer> rumoured) {
        Now then = beginning(now.shown, now.up);
        for (int day = 0; day <= said.day; day++) {
            then = pass(then, rumoured);
        }
        return doubts(then, said.row) == said.doubted;
    }

    List<Set<Integer>> fitting(Now now) {
        List<Set<Integer>> fitting = new ArrayList<>();
        for (Set<Integer> set : subsets(allRumours())) {
            if (seen.stream().allMatch(said -> isSo(now, said, set))) {
                fitting.add(set);
            }
        }
        fitting.sort((a, b) -> bits(a) - bits(b));
        return fitting;
    }

    /** The place and what is left, or -2 and -2. */
    int[] look(Now now) {
        List<Set<Integer>> fitting = fitting(now);
        int[] best = {-2, -2};
        if (fitting.isEmpty()) {
            return best;
        }
        for (int r = 0; r < rows.size(); r++) {
            for (int day = 0; day <= 20; day++) {
                Seen asked = new Seen(r, true, day);
                int yes = 0;
                for (Set<Integer> set : fitting) {
                    yes += isSo(now, asked, set) ? 1 : 0;
                }
                int left = Math.max(yes, fitting.size() - yes);
                if (best[1] == -2 || left < best[1]) {
                    best = new int[] {100 * r + day, left};
                }
            }
        }
        return best;
    }

    int judge(Now now) {
        for (int i = 0; i < seen.size(); i++) {
            if (!isSo(now, seen.get(i), allRumours())) {
                return i;
            }
        }
        return -2;
    }

    // ---- telling, two parties

    int tellMost(Now now, int r, int n) {
        List<Integer> faith = new ArrayList<>(now.faith);
        faith.set(r, 0);
        return doubters(ahead(new Now(faith, now.day, now.shown, now.up), n)).size();
    }

    /** What the game is worth; moves that were made are in a text of one sign each. */
    int play(Now now, int n, String mine, String theirs, boolean oneMoves, boolean passed, Map<String, Integer> known) {
        String key = mine + "/" + theirs + "/" + oneMoves + passed;
        Integer found = known.get(key);
        if (found != null) {
            return found;
        }
        Set<Integer> free = without(range(signs.size()), now.shown);
        free.removeAll(digits(mine));
        free.removeAll(digits(theirs));
        int worth;
        if (free.isEmpty()) {
            worth = worth(now, n, mine);
        } else {
            worth = passed ? worth(now, n, mine) : play(now, n, mine, theirs, !oneMoves, true, known);
            for (int k : free) {
                int by = oneMoves ? play(now, n, sorted(mine + k), theirs, false, false, known)
                        : play(now, n, mine, sorted(theirs + k), true, false, known);
                worth = oneMoves ? Math.max(worth, by) : Math.min(worth, by);
            }
        }
        known.put(key, worth);
        return worth;
    }

    private static String sorted(String digits) {
        char[] chars = digits.toCharArray();
        java.util.Arrays.sort(chars);
        return new String(chars);
    }

    private static Set<Integer> digits(String text) {
        Set<Integer> set = new TreeSet<>();
        for (char c : text.toCharArray()) {
            set.add(c - '0');
        }
        return set;
    }

    private int worth(Now now, int n, String mine) {
        Now with = new Now(now.faith, now.day, union(now.shown, digits(mine)), now.up);
        return rows.size() - doubters(ahead(with, n)).size();
    }

    int[] valueAndTake(Now now, int n) {
        Map<String, Integer> known = new HashMap<>();
        int value = play(now, n, "", "", true, false, known);
        Set<Integer> free = without(range(signs.size()), now.shown);
        if (free.isEmpty() || play(now, n, "", "", false, true, known) == value) {
            return new int[] {value, -2};
        }
        for (int k : free) {
            if (play(now, n, "" + k, "", false, false, known) == value) {
                return new int[] {value, k};
            }
        }
        throw new IllegalStateException("no first move");
    }

    // ---- hail, grafts

    /** Upper and lower by 100 to the n, of the mean of what is counted. */
    BigInteger hailed(Now now, int n, java.util.function.ToIntFunction<Now> counted) {
        if (n == 0) {
            return BigInteger.valueOf(counted.applyAsInt(now));
        }
        Now dry = pass(now);
        List<Integer> wet = new ArrayList<>();
        for (int faith : dry.faith) {
            wet.add(faith >= 10 ? faith - 1 : faith);
        }
        BigInteger with = hailed(new Now(wet, dry.day, dry.shown, dry.up), n - 1, counted);
        BigInteger without = hailed(dry, n - 1, counted);
        return with.multiply(BigInteger.valueOf(hail)).add(without.multiply(BigInteger.valueOf(100 - hail)));
    }

    long hailedTerm(Now now, int n, java.util.function.ToIntFunction<Now> counted, boolean lower) {
        BigInteger up = hailed(now, n, counted);
        BigInteger down = BigInteger.TEN.pow(2 * n);
        BigInteger by = up.gcd(down);
        return (lower ? down : up).divide(by).longValueExact();
    }

    /** How things are behind 0, 1, .. n days with grafts. */
    List<Now> grafted(Now now, int seed, int n) {
        List<Now> all = new ArrayList<>(List.of(now));
        long left = seed;
        for (int i = 0; i < n; i++) {
            left = (75 * left + 74) % 65537;
            Now ahead = all.get(i);
            List<Integer> faith = new ArrayList<>(ahead.faith);
            int r = (int) (left % rows.size());
            faith.set(r, Math.max(0, faith.get(r) - 3));
            all.add(pass(new Now(faith, ahead.day, ahead.shown, ahead.up)));
        }
        return all;
    }
}
