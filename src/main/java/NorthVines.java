import java.util.NoSuchElementException;

/** Rows of vines on a slope that believe in the old lord or doubt. */
public final class NorthVines {
    public static final int NONE = -1;

    private static final int CANNOT = -2;

    private static final int TAPE_ROOM = 900;
    private static final int FED_AT_ONCE = 20;

    private static final int MOST_ROWS = 7;
    private static final int MOST_SEES = 10;
    private static final int MOST_WALLS = 5;
    private static final int MOST_SIGNS = 6;
    private static final int MOST_RUMOURS = 5;
    private static final int MOST_SEEN = 5;

    private static final int LEAST_BELIEF = 10;
    private static final int MOST_FAITH = 30;
    private static final int MOST_TOLD = 20;
    private static final int LAST_TOLD_DAY = 20;
    private static final int TOLD_DAYS = LAST_TOLD_DAY + 1;
    private static final int MOST_AHEAD = 40;
    private static final int MOST_HAIL_DAYS = 6;
    private static final int MOST_GONE = 999;
    private static final int KEPT_ACTS = 16;
    private static final int KEPT_IMAGES = 3;

    private static final int SEEDS = 65537;
    private static final int SEED_TIMES = 75;
    private static final int SEED_MORE = 74;
    private static final int GRAFT_LOSS = 3;

    private static final int FINE = 0;
    private static final int NO_SUCH = 1;
    private static final int BAD_NUMBER = 2;
    private static final int NO_ROOM = 3;
    private static final int BAD_TEXT = 4;
    private static final int IS_SO = 5;
    private static final int NOTHING_KEPT = 6;

    private static final int PLAIN = 0;
    private static final int OLD = 1;
    private static final int NEW = 2;
    private static final int DEAF = 3;

    // Columns of the tables; what sign() and wall() are asked for are their first ones.
    private static final int COLUMNS = 4;
    private static final int KIND = 0;
    private static final int FAITH = 1;
    private static final int GRAPES = 2;
    private static final int NAME_AT = 3;
    private static final int SEER = 0;
    private static final int SEEN = 1;
    private static final int BY = 2;
    private static final int SIGHT = 3;
    private static final int ROW = 0;
    private static final int TELLS = 1;
    private static final int DOUBTED = 1;
    private static final int COSTS = 2;
    private static final int DAY = 3;

    private final Cells tape = new Cells(TAPE_ROOM);
    private int fed;
    private final Slope told = new Slope();
    private final Slope draft = new Slope();
    private final Reader reader = new Reader(tape, draft);
    private final State now = new State();
    private final Walk walk = new Walk(told);
    private final Choice choice = new Choice(told, walk);
    private final Source source = new Source(told, walk);
    private final Game game = new Game(told, walk);
    private final Hail hail = new Hail(told, walk);
    private final Shelf past = new Shelf(KEPT_ACTS);
    private final Shelf images = new Shelf(KEPT_IMAGES);
    private int trouble;
    private int fault;
    private int place;

    public NorthVines() {
        fed = 0;
        trouble = FINE;
        fault = 0;
        place = NONE;
    }

    // ---- the slope

    public int feed(int a, int b, int c, int d, int e) {
        if (fed + FED_AT_ONCE > TAPE_ROOM) {
            return NONE;
        }
        feedNumber(a);
        feedNumber(b);
        feedNumber(c);
        feedNumber(d);
        feedNumber(e);
        return fed;
    }

    private void feedNumber(int number) {
        for (int shift = 24; shift >= 0; shift -= 8) {
            tape.set(fed, (number >>> shift) & 255);
            fed++;
        }
    }

    public int slope(int n) {
        if (n < 0 || n > fed) {
            trouble = BAD_NUMBER;
            return NONE;
        }
        fault = reader.read(n);
        place = reader.faultPlace();
        fed = 0;
        if (fault != 0) {
            trouble = BAD_TEXT;
            return NONE;
        }
        trouble = FINE;
        told.copy(draft);
        now.begin(told);
        past.clear();
        images.clear();
        return told.rows.count();
    }

    public int fault() {
        return fault;
    }

    public int where() {
        return trouble == BAD_TEXT ? place : NONE;
    }

    // ---- what is refused

    private int slopeTrouble() {
        return told.rows.count() == 0 ? NO_SUCH : FINE;
    }

    private int rowTrouble(int r) {
        return told.rows.has(r) ? FINE : NO_SUCH;
    }

    private static int numberTrouble(int n, int most) {
        return n < 0 || n > most ? BAD_NUMBER : FINE;
    }

    private int daysTrouble(int n) {
        return slopeTrouble() != FINE ? NO_SUCH : numberTrouble(n, MOST_AHEAD);
    }

    private int rowDaysTrouble(int r, int n) {
        return rowTrouble(r) != FINE ? NO_SUCH : numberTrouble(n, MOST_AHEAD);
    }

    private int hailTrouble(int n) {
        return slopeTrouble() != FINE ? NO_SUCH : numberTrouble(n, MOST_HAIL_DAYS);
    }

    private int graftTrouble(int seed, int n) {
        int why = daysTrouble(n);
        return why != FINE ? why : numberTrouble(seed, SEEDS - 1);
    }

    private int rowGraftTrouble(int r, int seed, int n) {
        return rowTrouble(r) != FINE ? NO_SUCH : graftTrouble(seed, n);
    }

    // ---- now

    public int row(int r, int what) {
        trouble = rowTrouble(r);
        if (trouble != FINE) {
            return NONE;
        }
        switch (what) {
            case 0:
                return told.rows.at(r, KIND);
            case 1:
                return now.faith.at(r);
            case 2:
                return now.doubts(r) ? 1 : 0;
            case 3:
                return told.borneByRow(now, r);
            case 4:
                return told.seenBy(r, told.openSights(now.up));
            case 5:
                return told.seersOf(1 << r, told.openSights(now.up));
            default:
                trouble = NO_SUCH;
                return NONE;
        }
    }

    public int sign(int k, int what) {
        boolean known = told.signs.has(k) && what >= 0 && what <= COLUMNS;
        trouble = known ? FINE : NO_SUCH;
        if (!known) {
            return NONE;
        }
        return what == COLUMNS ? (now.shown >> k) & 1 : told.signs.at(k, what);
    }

    public int wall(int k, int what) {
        boolean known = told.walls.has(k) && what >= 0 && what <= SIGHT;
        trouble = known ? FINE : NO_SUCH;
        if (!known) {
            return NONE;
        }
        return what == SIGHT ? (now.up >> k) & 1 : told.walls.at(k, what);
    }

    public int doubters() {
        trouble = slopeTrouble();
        return trouble != FINE ? NONE : told.doubtersOf(now);
    }

    public int grapes() {
        trouble = slopeTrouble();
        return trouble != FINE ? NONE : told.borneBy(now);
    }

    public int weakest() {
        trouble = slopeTrouble();
        if (trouble != FINE) {
            return NONE;
        }
        int weakest = 0;
        for (int r = 1; r < told.rows.count(); r++) {
            if (now.faith.at(r) < now.faith.at(weakest)) {
                weakest = r;
            }
        }
        return weakest;
    }

    public int spent() {
        trouble = slopeTrouble();
        return trouble != FINE ? NONE : told.signs.coins(now.shown) + told.walls.coins(now.up);
    }

    // ---- days

    public int faithIn(int r, int n) {
        trouble = rowDaysTrouble(r, n);
        if (trouble != FINE) {
            return NONE;
        }
        walk.start(now);
        walk.go(n);
        return walk.faithOf(r);
    }

    public int doubtersIn(int n) {
        trouble = daysTrouble(n);
        if (trouble != FINE) {
            return NONE;
        }
        walk.start(now);
        walk.go(n);
        return walk.doubting();
    }

    public int when(int r) {
        trouble = rowTrouble(r);
        if (trouble != FINE) {
            return NONE;
        }
        walk.start(now);
        for (int n = 0; n <= MOST_AHEAD; n++) {
            if (walk.doubts(r)) {
                return n;
            }
            walk.pass();
        }
        return CANNOT;
    }

    public int first() {
        trouble = slopeTrouble();
        if (trouble != FINE) {
            return NONE;
        }
        walk.start(now);
        for (int n = 0; n <= MOST_AHEAD; n++) {
            for (int r = 0; r < told.rows.count(); r++) {
                if (walk.doubts(r)) {
                    return r;
                }
            }
            walk.pass();
        }
        return CANNOT;
    }

    public int worstDay() {
        trouble = slopeTrouble();
        if (trouble != FINE) {
            return NONE;
        }
        int worst = 0;
        int most = -1;
        walk.start(now);
        for (int n = 0; n <= MOST_AHEAD; n++) {
            int count = Integer.bitCount(walk.doubting());
            if (count > most) {
                most = count;
                worst = n;
            }
            walk.pass();
        }
        return worst;
    }

    public int still() {
        trouble = slopeTrouble();
        if (trouble != FINE) {
            return NONE;
        }
        walk.start(now);
        for (int n = 0; n <= MOST_AHEAD; n++) {
            if (!walk.pass()) {
                return n;
            }
        }
        return CANNOT;
    }

    public int harvest(int n) {
        trouble = daysTrouble(n);
        if (trouble != FINE) {
            return NONE;
        }
        walk.start(now);
        return walk.gather(n);
    }

    public int reach(int r) {
        trouble = rowTrouble(r);
        if (trouble != FINE) {
            return NONE;
        }
        int open = told.openSights(now.up);
        int reached = 1 << r;
        for (int step = 0; step < MOST_ROWS; step++) {
            reached |= told.seersOf(reached, open);
        }
        return reached;
    }

    // ---- signs, walls

    public int feign(int n) {
        trouble = daysTrouble(n);
        if (trouble != FINE) {
            return NONE;
        }
        choice.seekSigns(now, told.rows.allBits(), n);
        return choice.coins();
    }

    public int feignSigns(int n) {
        trouble = daysTrouble(n);
        if (trouble != FINE) {
            return NONE;
        }
        choice.seekSigns(now, told.rows.allBits(), n);
        return choice.bits();
    }

    public int feignFor(int r, int n) {
        trouble = rowDaysTrouble(r, n);
        if (trouble != FINE) {
            return NONE;
        }
        choice.seekSigns(now, 1 << r, n);
        return choice.coins();
    }

    public int bestSign(int n) {
        trouble = daysTrouble(n);
        if (trouble != FINE) {
            return NONE;
        }
        walk.start(now);
        int most = walk.gather(n);
        int best = CANNOT;
        for (int k = 0; k < told.signs.count(); k++) {
            if (((now.shown >> k) & 1) == 0) {
                walk.startWith(now, 1 << k, 0);
                int borne = walk.gather(n);
                if (borne > most) {
                    most = borne;
                    best = k;
                }
            }
        }
        return best;
    }

    public int walls(int n) {
        trouble = daysTrouble(n);
        if (trouble != FINE) {
            return NONE;
        }
        choice.seekWalls(now, told.rows.allBits(), n);
        return choice.coins();
    }

    public int wallsUp(int n) {
        trouble = daysTrouble(n);
        if (trouble != FINE) {
            return NONE;
        }
        choice.seekWalls(now, told.rows.allBits(), n);
        return choice.bits();
    }

    public int cut(int r) {
        trouble = rowTrouble(r);
        return trouble != FINE ? NONE : wallsAround(r);
    }

    // Who sees a row by others needs somebody who sees it itself, so that the walls on its own
    // open sights are needed, all of them, and no others are.
    private int wallsAround(int r) {
        int open = told.openSights(now.up);
        int around = 0;
        for (int s = 0; s < told.sees.count(); s++) {
            if (((open >> s) & 1) != 0 && told.sees.at(s, SEEN) == r) {
                int k = told.wallOn(s);
                if (k == NONE) {
                    return CANNOT;
                }
                around |= 1 << k;
            }
        }
        return around;
    }

    // ---- source

    public int sets() {
        trouble = slopeTrouble();
        if (trouble != FINE) {
            return NONE;
        }
        source.find(now);
        return source.count();
    }

    public int setAt(int i) {
        trouble = slopeTrouble();
        if (trouble != FINE) {
            return NONE;
        }
        source.find(now);
        int set = source.fitting(i);
        trouble = set == NONE ? NO_SUCH : FINE;
        return set;
    }

    public int could() {
        trouble = slopeTrouble();
        if (trouble != FINE) {
            return NONE;
        }
        source.find(now);
        return source.inSome();
    }

    public int surely() {
        trouble = slopeTrouble();
        if (trouble != FINE) {
            return NONE;
        }
        source.find(now);
        return source.inAll();
    }

    public int look() {
        trouble = slopeTrouble();
        if (trouble != FINE) {
            return NONE;
        }
        source.find(now);
        source.seekLook();
        return source.lookPlace();
    }

    public int lookLeaves() {
        trouble = slopeTrouble();
        if (trouble != FINE) {
            return NONE;
        }
        source.find(now);
        source.seekLook();
        return source.lookLeft();
    }

    public int judge() {
        trouble = slopeTrouble();
        if (trouble != FINE) {
            return NONE;
        }
        source.follow(now, (1 << told.rumours.count()) - 1);
        return source.firstWrong();
    }

    // ---- telling, two parties

    public int tell(int n) {
        trouble = daysTrouble(n);
        if (trouble != FINE) {
            return NONE;
        }
        int best = 0;
        int most = -1;
        for (int r = 0; r < told.rows.count(); r++) {
            int count = doubtersByTelling(r, n);
            if (count > most) {
                most = count;
                best = r;
            }
        }
        return best;
    }

    public int tellMost(int n) {
        trouble = daysTrouble(n);
        if (trouble != FINE) {
            return NONE;
        }
        int most = 0;
        for (int r = 0; r < told.rows.count(); r++) {
            most = Math.max(most, doubtersByTelling(r, n));
        }
        return most;
    }

    private int doubtersByTelling(int r, int n) {
        walk.start(now);
        walk.lose(r, MOST_FAITH);
        walk.go(n);
        return Integer.bitCount(walk.doubting());
    }

    public int value(int n) {
        trouble = daysTrouble(n);
        if (trouble != FINE) {
            return NONE;
        }
        game.play(now, n);
        return game.worth();
    }

    public int take(int n) {
        trouble = daysTrouble(n);
        if (trouble != FINE) {
            return NONE;
        }
        game.play(now, n);
        return game.firstTaken();
    }

    // ---- hail

    public long mean(int n, boolean lower) {
        trouble = hailTrouble(n);
        if (trouble != FINE) {
            return NONE;
        }
        hail.weigh(now, n, Hail.BELIEVING);
        return hail.whole(lower);
    }

    public long all(int n, boolean lower) {
        trouble = hailTrouble(n);
        if (trouble != FINE) {
            return NONE;
        }
        hail.weigh(now, n, Hail.ALL_BELIEVE);
        return hail.whole(lower);
    }

    public long doubt(int r, int n, boolean lower) {
        trouble = rowTrouble(r) != FINE ? NO_SUCH : hailTrouble(n);
        if (trouble != FINE) {
            return NONE;
        }
        hail.weigh(now, n, r);
        return hail.whole(lower);
    }

    // ---- grafts

    public int grafted(int r, int seed, int n) {
        trouble = rowGraftTrouble(r, seed, n);
        if (trouble != FINE) {
            return NONE;
        }
        walk.start(now);
        walk.goGrafted(seed, n);
        return walk.faithOf(r);
    }

    public int graftDoubters(int seed, int n) {
        trouble = graftTrouble(seed, n);
        if (trouble != FINE) {
            return NONE;
        }
        walk.start(now);
        walk.goGrafted(seed, n);
        return walk.doubting();
    }

    public int graftWhen(int r, int seed, int n) {
        trouble = rowGraftTrouble(r, seed, n);
        if (trouble != FINE) {
            return NONE;
        }
        walk.start(now);
        int left = seed;
        for (int night = 1; night <= n; night++) {
            left = walk.passGrafted(left);
            if (walk.doubts(r)) {
                return night;
            }
        }
        return 0;
    }

    // ---- acts

    public boolean show(int k, boolean is) {
        trouble = actTrouble(told.signs, now.shown, k, is);
        if (trouble != FINE) {
            return false;
        }
        past.keep(now);
        now.shown ^= 1 << k;
        return true;
    }

    public boolean put(int k, boolean is) {
        trouble = actTrouble(told.walls, now.up, k, is);
        if (trouble != FINE) {
            return false;
        }
        past.keep(now);
        now.up ^= 1 << k;
        return true;
    }

    private static int actTrouble(Table things, int bits, int k, boolean is) {
        if (!things.has(k)) {
            return NO_SUCH;
        }
        boolean isNow = ((bits >> k) & 1) != 0;
        return isNow == is ? IS_SO : FINE;
    }

    public int day() {
        trouble = slopeTrouble() != FINE ? NO_SUCH : now.gone >= MOST_GONE ? NO_ROOM : FINE;
        if (trouble != FINE) {
            return NONE;
        }
        past.keep(now);
        walk.start(now);
        walk.pass();
        walk.tellState(now);
        return told.doubtersOf(now);
    }

    public boolean undo() {
        boolean undone = past.takeLatest(now);
        trouble = undone ? FINE : NOTHING_KEPT;
        return undone;
    }

    public int image() {
        trouble = slopeTrouble() != FINE ? NO_SUCH : images.isFull() ? NO_ROOM : FINE;
        if (trouble != FINE) {
            return NONE;
        }
        int number = images.count();
        images.keep(now);
        return number;
    }

    public boolean back(int image) {
        boolean known = image >= 0 && image < images.count();
        trouble = known ? FINE : NO_SUCH;
        if (known) {
            images.read(image, now);
            past.clear();
        }
        return known;
    }

    // ---- what is told

    public int led(int i) throws NoSuchElementException {
        int left = i;
        for (int r = 0; r < told.rows.count(); r++) {
            if (now.doubts(r)) {
                if (left == 0) {
                    return r;
                }
                left--;
            }
        }
        throw new NoSuchElementException();
    }

    public int size(int what) {
        switch (what) {
            case 0:
                return told.bears;
            case 1:
                return told.hail;
            case 2:
                return told.rows.count();
            case 3:
                return told.sees.count();
            case 4:
                return told.walls.count();
            case 5:
                return told.signs.count();
            case 6:
                return told.rumours.count();
            case 7:
                return told.said.count();
            case 8:
                return now.gone;
            case 9:
                return past.count();
            case 10:
                return images.count();
            case 11:
                return fed;
            default:
                return NONE;
        }
    }

    public int trouble() {
        return trouble;
    }

    /** Numbers in a row. Arrays are used here and in Table alone, where each index is looked at. */
    private static final class Cells {
        private final int[] cells;

        Cells(int room) {
            cells = new int[Math.max(room, 0)];
        }

        int at(int i) {
            return i >= 0 && i < cells.length ? cells[i] : 0;
        }

        void set(int i, int number) {
            if (i >= 0 && i < cells.length) {
                cells[i] = number;
            }
        }

        void add(int i, int number) {
            if (i >= 0 && i < cells.length) {
                cells[i] += number;
            }
        }

        void clear() {
            for (int i = 0; i < cells.length; i++) {
                cells[i] = 0;
            }
        }

        void copy(Cells other) {
            for (int i = 0; i < cells.length; i++) {
                cells[i] = other.at(i);
            }
        }
    }

    /** What lines of one sort tell, four numbers a line. */
    private static final class Table {
        private final int room;
        private final int[] cells;
        private int count;

        Table(int room) {
            this.room = room;
            this.cells = new int[Math.max(room * COLUMNS, 0)];
            this.count = 0;
        }

        int count() {
            return count;
        }

        boolean has(int i) {
            return i >= 0 && i < count;
        }

        boolean isFull() {
            return count >= room;
        }

        int at(int i, int column) {
            int place = i * COLUMNS + column;
            return place >= 0 && place < cells.length ? cells[place] : 0;
        }

        void add(int a, int b, int c, int d) {
            int start = count * COLUMNS;
            if (start >= 0 && start + COLUMNS <= cells.length) {
                cells[start] = a;
                cells[start + 1] = b;
                cells[start + 2] = c;
                cells[start + 3] = d;
                count++;
            }
        }

        int allBits() {
            return (1 << count) - 1;
        }

        int coins(int chosen) {
            int sum = 0;
            for (int i = 0; i < count; i++) {
                if (((chosen >> i) & 1) != 0) {
                    sum += at(i, COSTS);
                }
            }
            return sum;
        }

        void clear() {
            count = 0;
        }

        void copy(Table other) {
            count = 0;
            for (int i = 0; i < other.count; i++) {
                add(other.at(i, 0), other.at(i, 1), other.at(i, 2), other.at(i, 3));
            }
        }
    }

    /** What the text of a slope tells. */
    private static final class Slope {
        private int bears;
        private int hail;
        private final Table rows = new Table(MOST_ROWS);
        private final Table sees = new Table(MOST_SEES);
        private final Table walls = new Table(MOST_WALLS);
        private final Table signs = new Table(MOST_SIGNS);
        private final Table rumours = new Table(MOST_RUMOURS);
        private final Table said = new Table(MOST_SEEN);

        void clear() {
            bears = 0;
            hail = 0;
            rows.clear();
            sees.clear();
            walls.clear();
            signs.clear();
            rumours.clear();
            said.clear();
        }

        void copy(Slope other) {
            bears = other.bears;
            hail = other.hail;
            rows.copy(other.rows);
            sees.copy(other.sees);
            walls.copy(other.walls);
            signs.copy(other.signs);
            rumours.copy(other.rumours);
            said.copy(other.said);
        }

        int sightOf(int seer, int seen) {
            for (int s = 0; s < sees.count(); s++) {
                if (sees.at(s, SEER) == seer && sees.at(s, SEEN) == seen) {
                    return s;
                }
            }
            return NONE;
        }

        int wallOn(int sight) {
            for (int k = 0; k < walls.count(); k++) {
                if (walls.at(k, SIGHT) == sight) {
                    return k;
                }
            }
            return NONE;
        }

        boolean isSaid(int row, int day) {
            for (int i = 0; i < said.count(); i++) {
                if (said.at(i, ROW) == row && said.at(i, DAY) == day) {
                    return true;
                }
            }
            return false;
        }

        int openSights(int up) {
            int open = sees.allBits();
            for (int k = 0; k < walls.count(); k++) {
                if (((up >> k) & 1) != 0) {
                    open &= ~(1 << walls.at(k, SIGHT));
                }
            }
            return open;
        }

        int seenBy(int row, int open) {
            int seen = 0;
            for (int s = 0; s < sees.count(); s++) {
                if (((open >> s) & 1) != 0 && sees.at(s, SEER) == row) {
                    seen |= 1 << sees.at(s, SEEN);
                }
            }
            return seen;
        }

        int seersOf(int seenRows, int open) {
            int seers = 0;
            for (int s = 0; s < sees.count(); s++) {
                if (((open >> s) & 1) != 0 && ((seenRows >> sees.at(s, SEEN)) & 1) != 0) {
                    seers |= 1 << sees.at(s, SEER);
                }
            }
            return seers;
        }

        int doubtersOf(State state) {
            int doubting = 0;
            for (int r = 0; r < rows.count(); r++) {
                if (state.doubts(r)) {
                    doubting |= 1 << r;
                }
            }
            return doubting;
        }

        int borneByRow(State state, int r) {
            int grapes = rows.at(r, GRAPES);
            return state.doubts(r) ? Math.min(bears, grapes) : grapes;
        }

        int borneBy(State state) {
            int sum = 0;
            for (int r = 0; r < rows.count(); r++) {
                sum += borneByRow(state, r);
            }
            return sum;
        }
    }

    /** Reads the text of a slope from the left up to its first fault. */
    private static final class Reader {
        private static final int FORM = 1;
        private static final int UNTOLD = 2;
        private static final int AGAIN = 3;
        private static final int BOUNDS = 4;
        private static final int MANY = 5;
        private static final int LACKS = 6;
        private static final int BLIND = 7;

        private static final int END = 0;
        private static final int WORD = 1;
        private static final int WHOLE = 2;
        private static final int MARK = 3;
        private static final int NO_TOKEN = 4;

        private static final int NO_LINE = 0;
        private static final int SLOPE_LINE = 1;
        private static final int ROW_LINE = 2;
        private static final int SEES_LINE = 3;
        private static final int WALL_LINE = 4;
        private static final int SIGN_LINE = 5;
        private static final int RUMOUR_LINE = 6;
        private static final int DOUBTED_LINE = 7;
        private static final int BELIEVED_LINE = 8;

        private static final int LONGEST_WORD = 8;
        private static final int LONGEST_WHOLE = 3;

        private final Cells text;
        private final Slope slope;
        private int end;
        private int at;
        private int next;
        private int sort;
        private boolean slopeTold;
        private int fault;
        private int place;

        Reader(Cells text, Slope slope) {
            this.text = text;
            this.slope = slope;
        }

        int faultPlace() {
            return place;
        }

        int read(int length) {
            slope.clear();
            slopeTold = false;
            fault = 0;
            place = NONE;
            end = length;
            next = 0;
            advance();
            // A line without a fault has bytes of its own, so there are fewer lines than bytes.
            for (int lines = 0; lines <= length; lines++) {
                readLine();
                if (fault != 0 || sort == END) {
                    break;
                }
                if (sort != MARK) {
                    fail(FORM);
                }
                advance();
            }
            if (slope.rows.count() == 0) {
                fail(LACKS);
            }
            return fault;
        }

        private void fail(int number) {
            if (fault == 0) {
                fault = number;
                place = at;
            }
        }

        /** To the next token; behind a fault there is none, so that the fault's place stays. */
        private void advance() {
            if (fault != 0) {
                return;
            }
            at = next;
            while (at < end && text.at(at) == ' ') {
                at++;
            }
            next = at + 1;
            int head = text.at(at);
            if (at >= end) {
                next = at;
                sort = END;
            } else if (isLetter(head)) {
                while (next < end && isLetter(text.at(next))) {
                    next++;
                }
                sort = next - at <= LONGEST_WORD ? WORD : NO_TOKEN;
            } else if (isDigit(head)) {
                while (next < end && isDigit(text.at(next))) {
                    next++;
                }
                sort = next - at <= LONGEST_WHOLE ? WHOLE : NO_TOKEN;
            } else {
                sort = head == ';' ? MARK : NO_TOKEN;
            }
        }

        private static boolean isLetter(int sign) {
            return sign >= 'a' && sign <= 'z';
        }

        private static boolean isDigit(int sign) {
            return sign >= '0' && sign <= '9';
        }

        private boolean isWord(String word) {
            if (sort != WORD || next - at != word.length()) {
                return false;
            }
            for (int i = 0; i < word.length(); i++) {
                if (text.at(at + i) != word.charAt(i)) {
                    return false;
                }
            }
            return true;
        }

        private boolean isWordAt(int other) {
            int length = next - at;
            for (int i = 0; i < length; i++) {
                if (text.at(at + i) != text.at(other + i)) {
                    return false;
                }
            }
            return !isLetter(text.at(other + length));
        }

        private int lineHere() {
            if (isWord("slope")) {
                return SLOPE_LINE;
            }
            if (isWord("row")) {
                return ROW_LINE;
            }
            if (isWord("sees")) {
                return SEES_LINE;
            }
            if (isWord("wall")) {
                return WALL_LINE;
            }
            if (isWord("sign")) {
                return SIGN_LINE;
            }
            if (isWord("rumour")) {
                return RUMOUR_LINE;
            }
            if (isWord("doubted")) {
                return DOUBTED_LINE;
            }
            return isWord("believed") ? BELIEVED_LINE : NO_LINE;
        }

        private void readLine() {
            int line = lineHere();
            if (line == NO_LINE) {
                fail(FORM);
            } else if (line == SLOPE_LINE && slopeTold) {
                fail(AGAIN);
            } else if (line != SLOPE_LINE && !slopeTold) {
                fail(LACKS);
            }
            if (fault != 0) {
                return;
            }
            switch (line) {
                case SLOPE_LINE:
                    readSlope();
                    break;
                case ROW_LINE:
                    readRow();
                    break;
                case SEES_LINE:
                    readSees();
                    break;
                case WALL_LINE:
                    readWall();
                    break;
                case SIGN_LINE:
                    readSign();
                    break;
                case RUMOUR_LINE:
                    readRumour();
                    break;
                case DOUBTED_LINE:
                case BELIEVED_LINE:
                    readSaid(line == DOUBTED_LINE ? 1 : 0);
                    break;
                default:
                    break;
            }
        }

        private void readSlope() {
            advance();
            takeWord("bears");
            int bears = takeWhole(0, 99);
            takeWord("hail");
            int hail = takeWhole(0, 100);
            if (fault == 0) {
                slope.bears = bears;
                slope.hail = hail;
                slopeTold = true;
            }
        }

        private void readRow() {
            enter(slope.rows);
            int name = at;
            if (sort != WORD || lineHere() != NO_LINE) {
                fail(FORM);
            } else if (namedHere() != NONE) {
                fail(AGAIN);
            }
            advance();
            int kind = kindHere();
            if (kind == NONE) {
                fail(FORM);
            }
            advance();
            takeWord("faith");
            int faith = takeWhole(0, MOST_FAITH);
            takeWord("grapes");
            int grapes = takeWhole(0, 99);
            if (fault == 0) {
                slope.rows.add(kind, faith, grapes, name);
            }
        }

        private void readSees() {
            enter(slope.sees);
            int seer = rowHere();
            advance();
            int seen = rowHere();
            if (seen == seer || slope.sightOf(seer, seen) != NONE) {
                fail(AGAIN);
            }
            advance();
            takeWord("by");
            int by = takeWhole(1, 9);
            if (fault == 0) {
                slope.sees.add(seer, seen, by, 0);
            }
        }

        private void readWall() {
            enter(slope.walls);
            int seer = rowHere();
            advance();
            int seen = rowHere();
            int sight = slope.sightOf(seer, seen);
            if (seen == seer || slope.wallOn(sight) != NONE) {
                fail(AGAIN);
            } else if (sight == NONE) {
                fail(BLIND);
            }
            advance();
            takeWord("costs");
            int costs = takeWhole(0, 99);
            if (fault == 0) {
                slope.walls.add(seer, seen, costs, sight);
            }
        }

        private void readSign() {
            enter(slope.signs);
            int row = rowHere();
            advance();
            int tells = takeWhole(1, MOST_TOLD);
            takeWord("costs");
            int costs = takeWhole(0, 99);
            takeWord("day");
            int day = takeWhole(0, LAST_TOLD_DAY);
            if (fault == 0) {
                slope.signs.add(row, tells, costs, day);
            }
        }

        private void readRumour() {
            enter(slope.rumours);
            int row = rowHere();
            advance();
            int tells = takeWhole(1, MOST_TOLD);
            takeWord("day");
            int day = takeWhole(0, LAST_TOLD_DAY);
            if (fault == 0) {
                slope.rumours.add(row, tells, 0, day);
            }
        }

        private void readSaid(int doubted) {
            enter(slope.said);
            int row = rowHere();
            advance();
            takeWord("day");
            int day = wholeHere(0, LAST_TOLD_DAY);
            if (slope.isSaid(row, day)) {
                fail(AGAIN);
            }
            advance();
            if (fault == 0) {
                slope.said.add(row, doubted, 0, day);
            }
        }

        private void enter(Table lines) {
            if (lines.isFull()) {
                fail(MANY);
            }
            advance();
        }

        private int namedHere() {
            for (int r = 0; r < slope.rows.count(); r++) {
                if (isWordAt(slope.rows.at(r, NAME_AT))) {
                    return r;
                }
            }
            return NONE;
        }

        private int rowHere() {
            if (sort != WORD || lineHere() != NO_LINE) {
                fail(FORM);
                return NONE;
            }
            int row = namedHere();
            if (row == NONE) {
                fail(UNTOLD);
            }
            return row;
        }

        private int kindHere() {
            if (isWord("plain")) {
                return PLAIN;
            }
            if (isWord("old")) {
                return OLD;
            }
            if (isWord("new")) {
                return NEW;
            }
            return isWord("deaf") ? DEAF : NONE;
        }

        private void takeWord(String word) {
            if (!isWord(word)) {
                fail(FORM);
            }
            advance();
        }

        private int wholeHere(int least, int most) {
            if (sort != WHOLE) {
                fail(FORM);
                return NONE;
            }
            int whole = 0;
            for (int i = at; i < next; i++) {
                whole = whole * 10 + text.at(i) - '0';
            }
            if (whole < least || whole > most) {
                fail(BOUNDS);
            }
            return whole;
        }

        private int takeWhole(int least, int most) {
            int whole = wholeHere(least, most);
            advance();
            return whole;
        }
    }

    /** How things stand: what each row believes, the days gone by, signs shown, walls up. */
    private static final class State {
        private final Cells faith = new Cells(MOST_ROWS);
        private int gone;
        private int shown;
        private int up;

        void begin(Slope slope) {
            for (int r = 0; r < slope.rows.count(); r++) {
                faith.set(r, slope.rows.at(r, FAITH));
            }
            gone = 0;
            shown = 0;
            up = 0;
        }

        void copy(State other) {
            faith.copy(other.faith);
            gone = other.gone;
            shown = other.shown;
            up = other.up;
        }

        boolean doubts(int r) {
            return faith.at(r) < LEAST_BELIEF;
        }
    }

    /** States that are kept, the oldest giving way to one more than there is room for. */
    private static final class Shelf {
        private static final int WIDTH = MOST_ROWS + 3;

        private final int room;
        private final Cells cells;
        private int count;
        private int top;

        Shelf(int room) {
            this.room = room;
            this.cells = new Cells(room * WIDTH);
            this.count = 0;
            this.top = 0;
        }

        int count() {
            return count;
        }

        boolean isFull() {
            return count >= room;
        }

        void clear() {
            count = 0;
            top = 0;
        }

        void keep(State state) {
            int start = top * WIDTH;
            for (int r = 0; r < MOST_ROWS; r++) {
                cells.set(start + r, state.faith.at(r));
            }
            cells.set(start + MOST_ROWS, state.gone);
            cells.set(start + MOST_ROWS + 1, state.shown);
            cells.set(start + MOST_ROWS + 2, state.up);
            top = top + 1 >= room ? 0 : top + 1;
            count = Math.min(count + 1, room);
        }

        void read(int i, State state) {
            int start = i * WIDTH;
            for (int r = 0; r < MOST_ROWS; r++) {
                state.faith.set(r, cells.at(start + r));
            }
            state.gone = cells.at(start + MOST_ROWS);
            state.shown = cells.at(start + MOST_ROWS + 1);
            state.up = cells.at(start + MOST_ROWS + 2);
        }

        boolean takeLatest(State state) {
            if (count == 0) {
                return false;
            }
            top = top == 0 ? room - 1 : top - 1;
            count--;
            read(top, state);
            return true;
        }
    }

    /** Days that go by from a state, which itself stays as it is. */
    private static final class Walk {
        private final Slope slope;
        private final State here = new State();
        private final Cells heard = new Cells(MOST_ROWS);
        private final Cells doubtSeen = new Cells(MOST_ROWS);
        private final Cells faithSeen = new Cells(MOST_ROWS);
        private int open;
        private int rumoured;

        Walk(Slope slope) {
            this.slope = slope;
        }

        void start(State from) {
            startWith(from, 0, 0);
        }

        void startWith(State from, int signs, int walls) {
            here.copy(from);
            here.shown |= signs;
            here.up |= walls;
            open = slope.openSights(here.up);
            rumoured = slope.rumours.allBits();
        }

        void hearOnly(int rumours) {
            rumoured = rumours;
        }

        void tellState(State state) {
            state.copy(here);
        }

        int faithOf(int r) {
            return here.faith.at(r);
        }

        boolean doubts(int r) {
            return here.doubts(r);
        }

        int doubting() {
            return slope.doubtersOf(here);
        }

        void go(int n) {
            // No day ends it early: one that changes nothing may have been evened out by what was told.
            for (int i = 0; i < n; i++) {
                pass();
            }
        }

        int gather(int n) {
            int sum = 0;
            for (int i = 0; i < n; i++) {
                pass();
                sum += slope.borneBy(here);
            }
            return sum;
        }

        void lose(int r, int faith) {
            here.faith.set(r, Math.max(0, here.faith.at(r) - faith));
        }

        void hailDown() {
            for (int r = 0; r < slope.rows.count(); r++) {
                if (!here.doubts(r)) {
                    lose(r, 1);
                }
            }
        }

        void goGrafted(int seed, int n) {
            int left = seed;
            for (int i = 0; i < n; i++) {
                left = passGrafted(left);
            }
        }

        /** Answers the seed that is left for the next night. */
        int passGrafted(int seed) {
            int draw = (SEED_TIMES * seed + SEED_MORE) % SEEDS;
            int rows = slope.rows.count();
            if (rows > 0) {
                lose(draw % rows, GRAFT_LOSS);
            }
            pass();
            return draw;
        }

        /** One day; whether it changed any faith. */
        boolean pass() {
            heard.clear();
            doubtSeen.clear();
            faithSeen.clear();
            if (here.gone <= LAST_TOLD_DAY) {
                hearSigns();
                hearRumours();
            }
            seeOthers();
            here.gone++;
            return settle();
        }

        private void hearSigns() {
            for (int k = 0; k < slope.signs.count(); k++) {
                if (((here.shown >> k) & 1) != 0 && slope.signs.at(k, DAY) == here.gone) {
                    heard.add(slope.signs.at(k, ROW), slope.signs.at(k, TELLS));
                }
            }
        }

        private void hearRumours() {
            for (int i = 0; i < slope.rumours.count(); i++) {
                if (((rumoured >> i) & 1) != 0 && slope.rumours.at(i, DAY) == here.gone) {
                    int row = slope.rumours.at(i, ROW);
                    int tells = slope.rumours.at(i, TELLS);
                    heard.add(row, -weightOf(tells, slope.rows.at(row, KIND)));
                }
            }
        }

        private static int weightOf(int tells, int kind) {
            switch (kind) {
                case OLD:
                    return tells / 2;
                case NEW:
                    return tells * 2;
                default:
                    return tells;
            }
        }

        private void seeOthers() {
            for (int s = 0; s < slope.sees.count(); s++) {
                if (((open >> s) & 1) != 0) {
                    int seer = slope.sees.at(s, SEER);
                    int seen = slope.sees.at(s, SEEN);
                    if (here.doubts(seen)) {
                        doubtSeen.add(seer, slope.sees.at(s, BY));
                    } else if (here.faith.at(seen) > here.faith.at(seer)) {
                        faithSeen.add(seer, 1);
                    }
                }
            }
        }

        private boolean settle() {
            boolean changed = false;
            for (int r = 0; r < slope.rows.count(); r++) {
                int kind = slope.rows.at(r, KIND);
                int before = here.faith.at(r);
                int faith = before + faithSeen.at(r);
                faith -= kind == OLD ? doubtSeen.at(r) / 2 : doubtSeen.at(r);
                faith += kind == DEAF ? 0 : heard.at(r);
                faith = Math.max(0, Math.min(MOST_FAITH, faith));
                here.faith.set(r, faith);
                changed = changed || faith != before;
            }
            return changed;
        }
    }

    /** The signs, or the walls, by which rows believe for the fewest coins. */
    private static final class Choice {
        private final Slope slope;
        private final Walk walk;
        private boolean found;
        private int coins;
        private int things;
        private int bits;

        Choice(Slope slope, Walk walk) {
            this.slope = slope;
            this.walk = walk;
        }

        int coins() {
            return found ? coins : CANNOT;
        }

        int bits() {
            return found ? bits : CANNOT;
        }

        void seekSigns(State from, int wanted, int n) {
            found = false;
            int free = slope.signs.allBits() & ~from.shown;
            for (int set = 0; set <= free; set++) {
                if ((set & ~free) == 0 && isBetter(slope.signs, set)) {
                    walk.startWith(from, set, 0);
                    keepIfBelieved(slope.signs, set, wanted, n);
                }
            }
        }

        void seekWalls(State from, int wanted, int n) {
            found = false;
            int free = slope.walls.allBits() & ~from.up;
            for (int set = 0; set <= free; set++) {
                if ((set & ~free) == 0 && isBetter(slope.walls, set)) {
                    walk.startWith(from, 0, set);
                    keepIfBelieved(slope.walls, set, wanted, n);
                }
            }
        }

        // Sets come by rising bits, so that of like ones the first stays.
        private boolean isBetter(Table offers, int set) {
            int price = offers.coins(set);
            return !found || price < coins || price == coins && Integer.bitCount(set) < things;
        }

        private void keepIfBelieved(Table offers, int set, int wanted, int n) {
            walk.go(n);
            if ((walk.doubting() & wanted) == 0) {
                found = true;
                coins = offers.coins(set);
                things = Integer.bitCount(set);
                bits = set;
            }
        }
    }

    /** Which rumours there may have been by what was seen. */
    private static final class Source {
        private final Slope slope;
        private final Walk walk;
        private final State beginning = new State();
        private final Cells doubting = new Cells(TOLD_DAYS);
        private final Cells doubts = new Cells(MOST_ROWS * TOLD_DAYS);
        private int fits;
        private int lookPlace;
        private int lookLeft;

        Source(Slope slope, Walk walk) {
            this.slope = slope;
            this.walk = walk;
        }

        void find(State now) {
            fits = 0;
            doubts.clear();
            int sets = 1 << slope.rumours.count();
            for (int set = 0; set < sets; set++) {
                follow(now, set);
                if (firstWrong() == CANNOT) {
                    fits |= 1 << set;
                    countDoubts();
                }
            }
        }

        void follow(State now, int set) {
            beginning.begin(slope);
            walk.startWith(beginning, now.shown, now.up);
            walk.hearOnly(set);
            for (int day = 0; day <= LAST_TOLD_DAY; day++) {
                walk.pass();
                doubting.set(day, walk.doubting());
            }
        }

        int firstWrong() {
            for (int i = 0; i < slope.said.count(); i++) {
                int doubted = doubting.at(slope.said.at(i, DAY)) >> slope.said.at(i, ROW);
                if ((doubted & 1) != slope.said.at(i, DOUBTED)) {
                    return i;
                }
            }
            return CANNOT;
        }

        private void countDoubts() {
            for (int r = 0; r < slope.rows.count(); r++) {
                for (int day = 0; day <= LAST_TOLD_DAY; day++) {
                    doubts.add(r * TOLD_DAYS + day, (doubting.at(day) >> r) & 1);
                }
            }
        }

        int count() {
            return Integer.bitCount(fits);
        }

        int fitting(int i) {
            int left = i;
            for (int set = 0; set < 1 << MOST_RUMOURS; set++) {
                if (((fits >> set) & 1) != 0) {
                    if (left == 0) {
                        return set;
                    }
                    left--;
                }
            }
            return NONE;
        }

        int inSome() {
            int some = 0;
            for (int set = 0; set < 1 << MOST_RUMOURS; set++) {
                if (((fits >> set) & 1) != 0) {
                    some |= set;
                }
            }
            return some;
        }

        int inAll() {
            int in = fits == 0 ? 0 : slope.rumours.allBits();
            for (int set = 0; set < 1 << MOST_RUMOURS; set++) {
                if (((fits >> set) & 1) != 0) {
                    in &= set;
                }
            }
            return in;
        }

        void seekLook() {
            int sets = count();
            lookPlace = CANNOT;
            lookLeft = CANNOT;
            for (int r = 0; r < slope.rows.count() && sets > 0; r++) {
                for (int day = 0; day <= LAST_TOLD_DAY; day++) {
                    int count = doubts.at(r * TOLD_DAYS + day);
                    int left = Math.max(count, sets - count);
                    if (lookLeft == CANNOT || left < lookLeft) {
                        lookLeft = left;
                        lookPlace = 100 * r + day;
                    }
                }
            }
        }

        int lookPlace() {
            return lookPlace;
        }

        int lookLeft() {
            return lookLeft;
        }
    }

    /**
     * The two parties who take signs by turns. A code has a digit below 3 for each free sign: 0 it
     * is left, 1 the one has it, 2 the other one; to take a sign makes the code higher, so that
     * codes are settled from the highest down.
     */
    private static final class Game {
        private static final int CODES = 729;

        private final Slope slope;
        private final Walk walk;
        private final Cells free = new Cells(MOST_SIGNS);
        private final Cells ends = new Cells(1 << MOST_SIGNS);
        private final Cells oneTurn = new Cells(CODES);
        private final Cells otherTurn = new Cells(CODES);
        private int frees;
        private int passing;

        Game(Slope slope, Walk walk) {
            this.slope = slope;
            this.walk = walk;
        }

        void play(State from, int n) {
            findFree(from);
            weighEnds(from, n);
            int codes = 1;
            for (int i = 0; i < frees; i++) {
                codes *= 3;
            }
            for (int code = codes - 1; code >= 0; code--) {
                settle(code);
            }
        }

        int worth() {
            return oneTurn.at(0);
        }

        int firstTaken() {
            if (passing == worth()) {
                return CANNOT;
            }
            int unit = 1;
            for (int i = 0; i < frees; i++) {
                if (otherTurn.at(unit) == worth()) {
                    return free.at(i);
                }
                unit *= 3;
            }
            return CANNOT;
        }

        private void findFree(State from) {
            frees = 0;
            for (int k = 0; k < slope.signs.count(); k++) {
                if (((from.shown >> k) & 1) == 0) {
                    free.set(frees, k);
                    frees++;
                }
            }
        }

        private void weighEnds(State from, int n) {
            for (int taken = 0; taken < 1 << frees; taken++) {
                int signs = 0;
                for (int i = 0; i < frees; i++) {
                    signs |= ((taken >> i) & 1) << free.at(i);
                }
                walk.startWith(from, signs, 0);
                walk.go(n);
                ends.set(taken, slope.rows.count() - Integer.bitCount(walk.doubting()));
            }
        }

        private void settle(int code) {
            int mine = 0;
            int oneTakes = -1;
            int otherTakes = MOST_ROWS + 1;
            int unit = 1;
            int rest = code;
            for (int i = 0; i < frees; i++) {
                int owner = rest % 3;
                if (owner == 0) {
                    oneTakes = Math.max(oneTakes, otherTurn.at(code + unit));
                    otherTakes = Math.min(otherTakes, oneTurn.at(code + 2 * unit));
                } else if (owner == 1) {
                    mine |= 1 << i;
                }
                rest /= 3;
                unit *= 3;
            }
            // Where one has just passed, the next one ends it all by passing too.
            int end = ends.at(mine);
            int oneBehindPass = Math.max(oneTakes, end);
            int otherBehindPass = Math.min(otherTakes, end);
            oneTurn.set(code, Math.max(oneTakes, otherBehindPass));
            otherTurn.set(code, Math.min(otherTakes, oneBehindPass));
            passing = otherBehindPass;
        }
    }

    /** How likely things are behind days on which it may hail. */
    private static final class Hail {
        private static final int BELIEVING = -1;
        private static final int ALL_BELIEVE = -2;
        private static final int HUNDRED = 100;
        private static final int MOST_STEPS = 200;

        private final Slope slope;
        private final Walk walk;
        private long upper;
        private long lower;

        Hail(Slope slope, Walk walk) {
            this.slope = slope;
            this.walk = walk;
        }

        long whole(boolean isLower) {
            return isLower ? lower : upper;
        }

        /** Asked is a row, for its doubt, or one of the two above. */
        void weigh(State from, int n, int asked) {
            upper = 0;
            lower = 1;
            for (int i = 0; i < n; i++) {
                lower *= HUNDRED;
            }
            for (int hails = 0; hails < 1 << n; hails++) {
                long weight = weightOf(hails, n);
                if (weight != 0) {
                    goHailed(from, hails, n);
                    upper += weight * counted(asked);
                }
            }
            reduce();
        }

        private long weightOf(int hails, int n) {
            long weight = 1;
            for (int i = 0; i < n; i++) {
                weight *= ((hails >> i) & 1) != 0 ? slope.hail : HUNDRED - slope.hail;
            }
            return weight;
        }

        private void goHailed(State from, int hails, int n) {
            walk.start(from);
            for (int i = 0; i < n; i++) {
                walk.pass();
                if (((hails >> i) & 1) != 0) {
                    walk.hailDown();
                }
            }
        }

        private int counted(int asked) {
            int doubting = walk.doubting();
            if (asked == BELIEVING) {
                return slope.rows.count() - Integer.bitCount(doubting);
            }
            if (asked == ALL_BELIEVE) {
                return doubting == 0 ? 1 : 0;
            }
            return (doubting >> asked) & 1;
        }

        private void reduce() {
            long a = lower;
            long b = upper;
            // Euclid needs fewer than seventy steps for numbers as low as these.
            for (int i = 0; i < MOST_STEPS && b != 0; i++) {
                long rest = a % b;
                a = b;
                b = rest;
            }
            if (a > 0) {
                upper /= a;
                lower /= a;
            }
        }
    }
}
