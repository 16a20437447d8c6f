/** Edges of Term II and of promises 6 to 20: what is so now, and days ahead. A test for each sentence. */
public final class EdgeDaysTest {
    private static final String SEVEN = Edge.slope("0 0", "a plain 10 99", "b plain 10 99", "c plain 10 99", "d plain 10 99",
            "e plain 10 99", "f plain 10 99", "g plain 10 99");
    // a is 30 behind 30 days; b begins to rise behind 10 days.
    private static final String RISING = Edge.slope("0 0", "t plain 30 1", "a plain 0 1", "b plain 0 1")
            + ";sees a t by 1;sees b a by 1";
    // z doubts behind the day of a rumour, and f falls by 1 a day from then on.
    private static final String FALLING = Edge.slope("0 0", "f plain 30 1", "z plain 10 1") + ";sees f z by 1";

    public static void main(String[] args) {
        terms();
        now();
        ahead();
        Edge.covered(6, 20);
        Check.end("EdgeDaysTest");
    }

    private static void terms() {
        asTold();
        belowTen();
        dayNumbers();
        allAtOnce();
        shownSigns();
        eachRumour();
        rumourKinds();
        doubtSeen();
        oldHalf();
        faithSeen();
        cutOff();
        deaf();
        grapesThen();
        fromNow();
        nothingGoesBy();
    }

    private static void now() {
        rowWhat();
        rowNone();
        signWhat();
        signNone();
        wallWhat();
        wallNone();
        doubters();
        grapes();
        weakest();
        spent();
    }

    private static void ahead() {
        faithInDays();
        faithInRefused();
        doubtersInDays();
        doubtersInRefused();
        whenNow();
        whenForty();
        whenRefused();
        firstOfLike();
        firstNone();
        worstDay();
        worstOfLike();
        still();
        stillNone();
        harvestDays();
        harvestRefused();
        reachItself();
        reachOn();
        reachRefused();
    }

    // ---- Term II

    private static void asTold() {
        Edge.of("II", "FAITH of a row: 0 .. 30, as told at first;");
        NorthVines x = Check.vines(Edge.slope("0 0", "a plain 0 1", "b plain 30 1", "c plain 29 1"));
        Check.due("0", x.row(0, 1), 0);
        Check.due("30", x.row(1, 1), 30);
        Check.due("29", x.row(2, 1), 29);
    }

    private static void belowTen() {
        Edge.of("II", "it DOUBTS if its FAITH is below 10, else it believes.");
        for (int faith = 0; faith <= 30; faith++) {
            NorthVines x = Check.vines(Edge.slope("0 0", "a plain " + faith + " 1"));
            Check.due("row(0, 2) by " + faith, x.row(0, 2), faith < 10 ? 1 : 0);
            Check.due("doubters() by " + faith, x.doubters(), faith < 10 ? 1 : 0);
            Check.due("doubtersIn(3) by " + faith, x.doubtersIn(3), faith < 10 ? 1 : 0);
        }
    }

    private static void dayNumbers() {
        Edge.of("II", "DAYS have numbers: the first one has 0.");
        for (int day = 0; day <= 20; day++) {
            NorthVines x = Check.vines(Edge.slope("0 0", "a plain 20 1") + ";rumour a 5 day " + day + ";sign a 2 costs 1 day " + day);
            Check.due("not yet, " + day, x.faithIn(0, day), 20);
            Check.due("behind the DAY " + day, x.faithIn(0, day + 1), 15);
            Check.due("once, " + day, x.faithIn(0, 40), 15);
            x.show(0, true);
            Check.due("with the sign, not yet, " + day, x.faithIn(0, day), 20);
            Check.due("with the sign, behind the DAY " + day, x.faithIn(0, day + 1), 17);
        }
    }

    private static void allAtOnce() {
        Edge.of("II", "On a DAY, for all at once, each from what all had ahead of it");
        NorthVines up = Check.vines(Edge.slope("0 0", "a plain 12 1", "b plain 12 1", "c plain 0 1") + ";sees a b by 9;sees b c by 9");
        Check.due("b falls first", up.doubtersIn(1), 6);
        Check.due("a falls then", up.doubtersIn(2), 7);
        NorthVines down = Check.vines(Edge.slope("0 0", "c plain 0 1", "b plain 12 1", "a plain 12 1") + ";sees b c by 9;sees a b by 9");
        Check.due("told the other way, b falls first", down.doubtersIn(1), 3);
        Check.due("told the other way, a falls then", down.doubtersIn(2), 7);
        NorthVines both = Check.vines(Edge.slope("0 0", "a plain 10 1", "b plain 11 1") + ";sees a b by 9;sees b a by 9");
        Check.due("a is raised to what b had", both.faithIn(0, 1), 11);
        Check.due("b isn't", both.faithIn(1, 1), 11);
        Check.due("then both have as much", both.still(), 1);
        NorthVines swap = Check.vines(Edge.slope("0 0", "a plain 9 1", "b plain 10 1") + ";sees a b by 1;sees b a by 1");
        Check.due("a is raised by b", swap.faithIn(0, 1), 10);
        Check.due("b is lowered by a", swap.faithIn(1, 1), 9);
        Check.due("and back", swap.faithIn(0, 2), 9);
    }

    private static void shownSigns() {
        Edge.of("II", "what each sign to it of that DAY's number that is SHOWN tells;");
        NorthVines x = Check.vines(Edge.slope("0 0", "a plain 1 1", "b plain 1 1") + ";sign a 1 costs 0 day 3;sign a 1 costs 0 day 3"
                + ";sign a 20 costs 0 day 4;sign b 7 costs 0 day 3");
        Check.due("none", x.faithIn(0, 4), 1);
        x.show(0, true);
        Check.due("one", x.faithIn(0, 4), 2);
        x.show(1, true);
        Check.due("each", x.faithIn(0, 4), 3);
        Check.due("none to the other row", x.faithIn(1, 4), 1);
        x.show(2, true);
        Check.due("not that of another number", x.faithIn(0, 4), 3);
        Check.due("that of the next number", x.faithIn(0, 5), 23);
    }

    private static void eachRumour() {
        Edge.of("II", "less what each rumour to it of that number tells");
        NorthVines x = Check.vines(Edge.slope("0 0", "a plain 30 1", "b plain 30 1") + ";rumour a 1 day 3;rumour a 1 day 3;rumour a 20 day 4"
                + ";rumour b 7 day 3;rumour b 1 day 20");
        Check.due("not yet", x.faithIn(0, 3), 30);
        Check.due("each", x.faithIn(0, 4), 28);
        Check.due("that of the next number", x.faithIn(0, 5), 8);
        Check.due("none more", x.faithIn(0, 40), 8);
        Check.due("the other row's own", x.faithIn(1, 4), 23);
        Check.due("the other row's last", x.faithIn(1, 40), 22);
        NorthVines five = Check.vines(Edge.slope("0 0", "a new 30 1", "b plain 30 1") + ";rumour b 5 day 20".repeat(5));
        Check.due("five of one DAY", five.faithIn(1, 21), 5);
        Check.due("none to the first row", five.faithIn(0, 21), 30);
    }

    private static void rumourKinds() {
        Edge.of("II", "(to a new row twice as much, to an old one half of it, downwards)");
        int[] tells = {1, 2, 3, 9, 14, 15, 19, 20};
        for (int told : tells) {
            NorthVines x = Check.vines(Edge.slope("0 0", "p plain 30 1", "o old 30 1", "n new 30 1", "d deaf 30 1")
                    + ";rumour p " + told + " day 0;rumour o " + told + " day 0;rumour n " + told + " day 0;rumour d " + told + " day 0");
            Check.due("plain by " + told, x.faithIn(0, 1), 30 - told);
            Check.due("old by " + told, x.faithIn(1, 1), 30 - told / 2);
            Check.due("new by " + told, x.faithIn(2, 1), Math.max(0, 30 - 2 * told));
            Check.due("deaf by " + told, x.faithIn(3, 1), 30);
        }
        NorthVines five = Check.vines(Edge.slope("0 0", "o old 30 1") + ";rumour o 1 day 0".repeat(5));
        Check.due("half of each, not of all", five.faithIn(0, 1), 30);
        NorthVines odd = Check.vines(Edge.slope("0 0", "o old 30 1") + ";rumour o 3 day 0".repeat(5));
        Check.due("half of each odd one", odd.faithIn(0, 1), 25);
    }

    private static void doubtSeen() {
        Edge.of("II", "less BY told for each row it sees without a wall between that DOUBTED");
        for (int by : new int[] {1, 9}) {
            NorthVines nine = Check.vines(Edge.slope("0 0", "a plain 20 1", "z plain 9 1") + ";sees a z by " + by + ";wall a z costs 0");
            Check.due("9 doubts, by " + by, nine.faithIn(0, 1), 20 - by);
            Check.due("the seen one stays", nine.faithIn(1, 1), 9);
            nine.put(0, true);
            Check.due("behind a wall", nine.faithIn(0, 1), 20);
            NorthVines ten = Check.vines(Edge.slope("0 0", "a plain 20 1", "z plain 10 1") + ";sees a z by " + by);
            Check.due("10 doesn't doubt", ten.faithIn(0, 1), 20);
        }
        NorthVines six = Check.vines(Edge.slope("0 0", "a plain 30 1", "b plain 0 1", "c plain 0 1", "d plain 0 1", "e plain 0 1",
                "f plain 0 1", "g plain 0 1") + ";sees a b by 1;sees a c by 2;sees a d by 3;sees a e by 4;sees a f by 5;sees a g by 6");
        Check.due("for each", six.faithIn(0, 1), 9);
    }

    private static void oldHalf() {
        Edge.of("II", "(an old row: half of these together, downwards)");
        int[][] bys = {{1, 0}, {1, 1}, {2, 1}, {9, 8}, {9, 9}, {1, 2}};
        for (int[] by : bys) {
            String text = Edge.slope("0 0", "o old 20 1", "y plain 0 1", "z plain 9 1", "t plain 30 1") + ";sees o y by " + by[0];
            if (by[1] > 0) {
                text += ";sees o z by " + by[1];
            }
            NorthVines x = Check.vines(text);
            Check.due("by " + by[0] + " and " + by[1], x.faithIn(0, 1), 20 - (by[0] + by[1]) / 2);
            NorthVines raised = Check.vines(text + ";sees o t by 1");
            Check.due("and 1, not halved", raised.faithIn(0, 1), 21 - (by[0] + by[1]) / 2);
            NorthVines told = Check.vines(text + ";rumour o 1 day 0");
            Check.due("not together with rumours", told.faithIn(0, 1), 20 - (by[0] + by[1]) / 2);
        }
        NorthVines fresh = Check.vines(Edge.slope("0 0", "n new 20 1", "z plain 9 1") + ";sees n z by 4");
        Check.due("a new row: as told", fresh.faithIn(0, 1), 16);
    }

    private static void faithSeen() {
        Edge.of("II", "and 1 for each row it sees without a wall between that believed and had more FAITH than it;");
        int[][] due = {{9, 10, 10}, {10, 11, 11}, {11, 11, 11}, {12, 11, 12}, {29, 30, 30}, {0, 10, 1}, {5, 9, 4}, {8, 9, 7}};
        for (int[] d : due) {
            NorthVines x = Check.vines(Edge.slope("0 0", "a plain " + d[0] + " 1", "t plain " + d[1] + " 1")
                    + ";sees a t by 1;wall a t costs 0");
            Check.due(d[0] + " sees " + d[1], x.faithIn(0, 1), d[2]);
            x.put(0, true);
            Check.due(d[0] + " doesn't see " + d[1], x.faithIn(0, 1), d[0]);
        }
        NorthVines six = Check.vines(SEVEN.replace("row a plain faith 10", "row a plain faith 9")
                + ";sees a b by 9;sees a c by 9;sees a d by 9;sees a e by 9;sees a f by 9;sees a g by 9");
        Check.due("for each", six.faithIn(0, 1), 15);
        for (int r = 0; r < 7; r++) {
            char seer = (char) ('a' + r);
            char seen = (char) ('a' + (r + 1) % 7);
            NorthVines x = Check.vines(SEVEN.replace("row " + seen + " plain faith 10", "row " + seen + " plain faith 11")
                    + ";sees " + seer + " " + seen + " by 9");
            for (int other = 0; other < 7; other++) {
                Check.due("row " + other + ", where " + r + " sees one", x.faithIn(other, 1), other == r || other == (r + 1) % 7 ? 11 : 10);
            }
        }
    }

    private static void cutOff() {
        Edge.of("II", "0 if that is below 0, 30 if it is above 30.");
        int[][] low = {{5, 4, 1}, {5, 5, 0}, {5, 6, 0}, {0, 20, 0}};
        for (int[] d : low) {
            NorthVines x = Check.vines(Edge.slope("0 0", "a plain " + d[0] + " 1") + ";rumour a " + d[1] + " day 0");
            Check.due(d[0] + " less " + d[1], x.faithIn(0, 1), d[2]);
        }
        int[][] high = {{28, 1, 29}, {28, 2, 30}, {28, 3, 30}, {30, 20, 30}};
        for (int[] d : high) {
            NorthVines x = Check.vines(Edge.slope("0 0", "a plain " + d[0] + " 1") + ";sign a " + d[1] + " costs 0 day 0");
            x.show(0, true);
            Check.due(d[0] + " and " + d[1], x.faithIn(0, 1), d[2]);
        }
        NorthVines both = Check.vines(Edge.slope("0 0", "a plain 30 1", "b plain 0 1") + ";sign a 20 costs 0 day 0;rumour a 20 day 0"
                + ";sign b 20 costs 0 day 0;rumour b 5 day 0");
        both.show(0, true);
        both.show(1, true);
        Check.due("only in the end, above", both.faithIn(0, 1), 30);
        Check.due("only in the end, below", both.faithIn(1, 1), 15);
    }

    private static void deaf() {
        Edge.of("II", "To deaf rows signs and rumours do nothing.");
        NorthVines x = Check.vines(Edge.slope("0 0", "d deaf 12 1", "e deaf 12 1", "t plain 30 1", "z plain 0 1")
                + ";sign d 20 costs 0 day 0;rumour e 20 day 0;sees d z by 4;sees e t by 4");
        x.show(0, true);
        Check.due("it sees doubt", x.faithIn(0, 1), 8);
        Check.due("it sees faith", x.faithIn(1, 1), 13);
    }

    private static void grapesThen() {
        Edge.of("II", "as told if it believes then; else as many as the slope bears, or as told, whichever is less.");
        for (int bears : new int[] {0, 6, 7, 8, 99}) {
            NorthVines x = Check.vines(Edge.slope(bears + " 0", "a plain 9 7", "b plain 10 7", "c plain 9 0", "d plain 9 99"));
            Check.due("doubts, bears " + bears, x.row(0, 3), Math.min(bears, 7));
            Check.due("believes, bears " + bears, x.row(1, 3), 7);
            Check.due("none told, bears " + bears, x.row(2, 3), 0);
            Check.due("99 told, bears " + bears, x.row(3, 3), bears);
        }
    }

    private static void nothingGoesBy() {
        Edge.of("II", "All questions are from NOW");
        NorthVines x = Check.vines(Edge.RICH);
        String fresh = Edge.answers(x);
        Check.due("asked once more", Edge.answers(x).equals(fresh), true);
        x.day();
        x.show(1, true);
        x.put(0, true);
        x.undo();
        x.undo();
        x.undo();
        Check.due("and behind what was undone", Edge.answers(x).equals(fresh), true);
        NorthVines y = Check.vines(Edge.RICH);
        y.show(1, true);
        y.put(0, true);
        y.day();
        String later = Edge.answers(y);
        Check.due("they are others behind acts", later.equals(fresh), false);
        Check.due("asked once more behind acts", Edge.answers(y).equals(later), true);
    }

    private static void fromNow() {
        Edge.of("II", "All questions are from NOW: as many DAYS more, signs SHOWN and walls up as NOW.");
        NorthVines x = Check.vines(Edge.slope("0 0", "a plain 20 5", "z plain 9 5") + ";sees a z by 2;wall a z costs 0"
                + ";sign a 7 costs 0 day 1;rumour a 1 day 0");
        Check.due("at first", x.faithIn(0, 2), 15);
        x.day();
        Check.due("the DAY that went by", x.faithIn(0, 0), 17);
        Check.due("as many more", x.faithIn(0, 1), 15);
        x.show(0, true);
        Check.due("by the sign", x.faithIn(0, 1), 22);
        x.put(0, true);
        Check.due("by the wall", x.faithIn(0, 1), 24);
        Check.due("and further", x.faithIn(0, 40), 24);
        Check.due("nothing went by", x.size(8), 1);
        // a sees b doubt: the sign alone isn't enough then, and the wall alone is.
        NorthVines y = Check.vines(Edge.slope("0 0", "a plain 10 5", "b plain 9 5", "t plain 30 5") + ";sees a b by 2;sees b t by 1"
                + ";wall a b costs 1;sign a 1 costs 1 day 0");
        Check.answered("signs, walls as NOW: feign(1)", y, y.feign(1), -2);
        Check.answered("signs, walls as NOW: feignFor(0, 1)", y, y.feignFor(0, 1), -2);
        Check.answered("signs, walls as NOW: bestSign(1)", y, y.bestSign(1), -2);
        Check.answered("signs, walls as NOW: value(1)", y, y.value(1), 2);
        Check.answered("walls, signs as NOW: walls(1)", y, y.walls(1), 1);
        y.put(0, true);
        Check.answered("with the wall: feign(1)", y, y.feign(1), 0);
        Check.answered("with the wall: value(1)", y, y.value(1), 3);
        NorthVines z = Check.vines(Edge.slope("0 0", "a plain 9 5", "z plain 9 5") + ";sees a z by 1;wall a z costs 1;sign a 1 costs 1 day 0");
        Check.answered("signs, walls as NOW: feignFor(0, 1)", z, z.feignFor(0, 1), -2);
        Check.answered("signs, walls as NOW: bestSign(1)", z, z.bestSign(1), -2);
        Check.answered("signs, walls as NOW: take(1)", z, z.take(1), -2);
        z.put(0, true);
        Check.answered("with the wall: feignFor(0, 1)", z, z.feignFor(0, 1), 1);
        Check.answered("with the wall: bestSign(1)", z, z.bestSign(1), 0);
        Check.answered("with the wall: take(1)", z, z.take(1), 0);
    }

    // ---- promises 6 to 12

    private static void rowWhat() {
        Edge.of("6", "Of a row 0 KIND (0 plain, 1 old, 2 new, 3 deaf), 1 FAITH NOW, 2 1 if it DOUBTS, 3 GRAPES as it is NOW,"
                + " 4 rows it sees without a wall between NOW, as bits, 5 rows that see it so, as bits.");
        NorthVines x = Check.vines(Edge.MOST);
        Check.due("KIND", x.row(6, 0), 0);
        Check.due("FAITH", x.row(6, 1), 30);
        Check.due("DOUBTS", x.row(6, 2), 0);
        Check.due("GRAPES", x.row(6, 3), 99);
        Check.due("sees", x.row(6, 4), 1 + 32);
        Check.due("seen by", x.row(6, 5), 32);
        Check.due("seen by", x.row(0, 5), 64 + 2);
        x.put(2, true);
        Check.due("sees by a wall", x.row(6, 4), 32);
        Check.due("seen by a wall", x.row(0, 5), 2);
        x.put(3, true);
        x.put(4, true);
        Check.due("sees nobody", x.row(6, 4), 0);
        Check.due("is seen by nobody", x.row(0, 5), 0);
        NorthVines alone = Check.vines(Edge.slope("0 0", "a deaf 0 0"));
        int[] due = {3, 0, 1, 0, 0, 0};
        for (int what = 0; what < due.length; what++) {
            Check.answered("row(0, " + what + ") of one", alone, alone.row(0, what), due[what]);
        }
    }

    private static void rowNone() {
        Edge.of("6", "NONE: 1.");
        Edge.withoutSlope("row");
        NorthVines most = Check.vines(Edge.MOST);
        Check.answered("row(6, 5)", most, most.row(6, 5), 32);
        Check.refused("row(7, 0)", most, most.row(7, 0), 1);
        NorthVines x = Check.vines(Edge.ONE);
        Check.refused("row(2, 0)", x, x.row(2, 0), 1);
        Check.refused("row(0, 6)", x, x.row(0, 6), 1);
        for (int far : Edge.FAR) {
            Check.refused("row(" + far + ", 0)", x, x.row(far, 0), 1);
            Check.refused("row(0, " + far + ")", x, x.row(0, far), 1);
            Check.refused("row(" + far + ", " + far + ")", x, x.row(far, far), 1);
        }
    }

    private static void signWhat() {
        Edge.of("7", "Of a sign 0 its row, 1 what it tells, 2 coins, 3 the DAY's number, 4 1 if it is SHOWN NOW.");
        NorthVines x = Check.vines(Edge.slope("0 0", "a plain 1 1", "b plain 1 1") + ";sign a 1 costs 0 day 0".repeat(5)
                + ";sign b 20 costs 99 day 20");
        int[] first = {0, 1, 0, 0, 0};
        int[] last = {1, 20, 99, 20, 0};
        for (int what = 0; what < 5; what++) {
            Check.answered("sign(0, " + what + ")", x, x.sign(0, what), first[what]);
            Check.answered("sign(5, " + what + ")", x, x.sign(5, what), last[what]);
        }
        x.show(5, true);
        Check.due("the last one shown", x.sign(5, 4), 1);
        Check.due("the first one isn't", x.sign(0, 4), 0);
    }

    private static void signNone() {
        Edge.of("7", "NONE: 1.");
        Edge.withoutSlope("sign");
        NorthVines most = Check.vines(Edge.MOST);
        Check.answered("sign(5, 4)", most, most.sign(5, 4), 0);
        Check.refused("sign(6, 0)", most, most.sign(6, 0), 1);
        NorthVines x = Check.vines(Edge.ONE);
        Check.refused("sign(1, 0)", x, x.sign(1, 0), 1);
        Check.refused("sign(0, 5)", x, x.sign(0, 5), 1);
        for (int far : Edge.FAR) {
            Check.refused("sign(" + far + ", 0)", x, x.sign(far, 0), 1);
            Check.refused("sign(0, " + far + ")", x, x.sign(0, far), 1);
        }
        NorthVines none = Check.vines(Edge.slope("0 0", "a plain 1 1"));
        Check.refused("sign(0, 0) of a slope without", none, none.sign(0, 0), 1);
    }

    private static void wallWhat() {
        Edge.of("8", "Of a wall 0 the first row, 1 the second one, 2 coins, 3 1 if it is up NOW.");
        NorthVines x = Check.vines(Edge.slope("0 0", "a plain 1 1", "b plain 1 1", "c plain 1 1") + ";sees a b by 1;sees b a by 1"
                + ";sees a c by 1;sees c a by 1;sees b c by 1;wall a b costs 0;wall b a costs 1;wall a c costs 1;wall c a costs 1"
                + ";wall b c costs 99");
        int[] first = {0, 1, 0, 0};
        int[] last = {1, 2, 99, 0};
        for (int what = 0; what < 4; what++) {
            Check.answered("wall(0, " + what + ")", x, x.wall(0, what), first[what]);
            Check.answered("wall(4, " + what + ")", x, x.wall(4, what), last[what]);
        }
        x.put(4, true);
        Check.due("the last one up", x.wall(4, 3), 1);
        Check.due("the first one isn't", x.wall(0, 3), 0);
    }

    private static void wallNone() {
        Edge.of("8", "NONE: 1.");
        Edge.withoutSlope("wall");
        NorthVines most = Check.vines(Edge.MOST);
        Check.answered("wall(4, 3)", most, most.wall(4, 3), 0);
        Check.refused("wall(5, 0)", most, most.wall(5, 0), 1);
        NorthVines x = Check.vines(Edge.ONE);
        Check.refused("wall(1, 0)", x, x.wall(1, 0), 1);
        Check.refused("wall(0, 4)", x, x.wall(0, 4), 1);
        for (int far : Edge.FAR) {
            Check.refused("wall(" + far + ", 0)", x, x.wall(far, 0), 1);
            Check.refused("wall(0, " + far + ")", x, x.wall(0, far), 1);
        }
        NorthVines none = Check.vines(Edge.slope("0 0", "a plain 1 1"));
        Check.refused("wall(0, 0) of a slope without", none, none.wall(0, 0), 1);
    }

    private static void doubters() {
        Edge.of("9", "Who DOUBTS, as bits. NONE: 1 (no SLOPE).");
        Edge.withoutSlope("doubters");
        NorthVines x = Check.vines(SEVEN);
        Check.answered("nobody", x, x.doubters(), 0);
        NorthVines all = Check.vines(SEVEN.replace("faith 10", "faith 9"));
        Check.answered("all of seven", all, all.doubters(), 127);
        NorthVines last = Check.vines(SEVEN.replace("row g plain faith 10", "row g plain faith 9"));
        Check.answered("the last of seven", last, last.doubters(), 64);
    }

    private static void grapes() {
        Edge.of("10", "GRAPES of all as they are NOW. NONE: 1 (no SLOPE).");
        Edge.withoutSlope("grapes");
        NorthVines x = Check.vines(SEVEN);
        Check.answered("as many as there may be", x, x.grapes(), 693);
        NorthVines all = Check.vines(SEVEN.replace("faith 10", "faith 9"));
        Check.answered("none is borne", all, all.grapes(), 0);
        NorthVines behind = Check.vines(Edge.slope("5 0", "a plain 10 30") + ";rumour a 1 day 0");
        Check.due("ahead of the DAY", behind.grapes(), 30);
        behind.day();
        Check.due("behind the DAY", behind.grapes(), 5);
    }

    private static void weakest() {
        Edge.of("11", "The row with least FAITH, the first such. NONE: 1 (no SLOPE).");
        Edge.withoutSlope("weakest");
        NorthVines x = Check.vines(SEVEN);
        Check.answered("all alike", x, x.weakest(), 0);
        NorthVines last = Check.vines(SEVEN.replace("row g plain faith 10", "row g plain faith 9"));
        Check.answered("the last", last, last.weakest(), 6);
        NorthVines two = Check.vines(Edge.slope("0 0", "a plain 1 1", "b plain 0 1", "c plain 0 1"));
        Check.answered("the first of two", two, two.weakest(), 1);
    }

    private static void spent() {
        Edge.of("12", "Coins of all signs SHOWN and walls up. NONE: 1 (no SLOPE).");
        Edge.withoutSlope("spent");
        NorthVines x = Check.vines(Edge.MOST);
        Check.answered("nothing", x, x.spent(), 0);
        for (int k = 0; k < 6; k++) {
            x.show(k, true);
            Check.answered("signs up to " + k, x, x.spent(), 99 * (k + 1));
        }
        for (int k = 0; k < 5; k++) {
            x.put(k, true);
            Check.answered("all signs, walls up to " + k, x, x.spent(), 99 * (k + 7));
        }
        x.show(5, false);
        x.put(4, false);
        Check.answered("less again", x, x.spent(), 99 * 9);
        NorthVines none = Check.vines(Edge.slope("0 0", "a plain 1 1"));
        Check.answered("there is nothing to spend for", none, none.spent(), 0);
    }

    // ---- promises 13 to 20

    private static void faithInDays() {
        Edge.of("13", "FAITH of a row behind n DAYS (0 .. 40).");
        NorthVines x = Check.vines(RISING);
        Check.answered("faithIn(2, 0)", x, x.faithIn(2, 0), 0);
        Check.answered("faithIn(2, 11)", x, x.faithIn(2, 11), 1);
        Check.answered("faithIn(2, 39)", x, x.faithIn(2, 39), 29);
        Check.answered("faithIn(2, 40)", x, x.faithIn(2, 40), 30);
        Check.answered("faithIn(1, 40)", x, x.faithIn(1, 40), 30);
    }

    private static void faithInRefused() {
        Edge.of("13", "NONE: 1; 2.");
        Edge.withoutSlope("faithIn");
        NorthVines x = Check.vines(Edge.ONE);
        for (int n : Edge.NO_DAYS) {
            Check.refused("faithIn(1, " + n + ")", x, x.faithIn(1, n), 2);
            Check.refused("faithIn(2, " + n + "), 1 comes first", x, x.faithIn(2, n), 1);
        }
        Check.refused("faithIn(2, 0)", x, x.faithIn(2, 0), 1);
        for (int far : Edge.FAR) {
            Check.refused("faithIn(" + far + ", 40)", x, x.faithIn(far, 40), 1);
        }
    }

    private static void doubtersInDays() {
        Edge.of("14", "Who DOUBTS behind n DAYS (0 .. 40), as bits.");
        NorthVines x = Check.vines(FALLING + ";rumour z 1 day 18");
        Check.answered("doubtersIn(0)", x, x.doubtersIn(0), 0);
        Check.answered("doubtersIn(18)", x, x.doubtersIn(18), 0);
        Check.answered("doubtersIn(19)", x, x.doubtersIn(19), 2);
        Check.answered("doubtersIn(39)", x, x.doubtersIn(39), 2);
        Check.answered("doubtersIn(40)", x, x.doubtersIn(40), 3);
        NorthVines all = Check.vines(SEVEN.replace("faith 10", "faith 9"));
        Check.answered("all of seven", all, all.doubtersIn(40), 127);
    }

    private static void doubtersInRefused() {
        Edge.of("14", "NONE: 1 (no SLOPE); 2.");
        Edge.withoutSlope("doubtersIn");
        NorthVines x = Check.vines(Edge.ONE);
        NorthVines none = new NorthVines();
        for (int n : Edge.NO_DAYS) {
            Check.refused("doubtersIn(" + n + ")", x, x.doubtersIn(n), 2);
            Check.refused("doubtersIn(" + n + ") without a slope", none, none.doubtersIn(n), 1);
        }
    }

    private static void whenNow() {
        Edge.of("15", "(0: NOW; 40 at most)");
        NorthVines x = Check.vines(Edge.slope("0 0", "a plain 9 1", "b plain 10 1") + ";rumour b 1 day 0;sign a 20 costs 0 day 0");
        Check.answered("NOW", x, x.when(0), 0);
        Check.answered("behind one", x, x.when(1), 1);
        x.show(0, true);
        Check.answered("NOW, though not behind one", x, x.when(0), 0);
        x.day();
        Check.answered("from the next NOW", x, x.when(1), 0);
        Check.answered("never again", x, x.when(0), -2);
    }

    private static void whenForty() {
        Edge.of("15", "a row DOUBTS first; -2.");
        NorthVines at40 = Check.vines(FALLING + ";rumour z 1 day 18");
        Check.answered("behind 40", at40, at40.when(0), 40);
        NorthVines at41 = Check.vines(FALLING + ";rumour z 1 day 19");
        Check.answered("behind 41", at41, at41.when(0), -2);
        at41.day();
        Check.answered("behind 40 from the next NOW", at41, at41.when(0), 40);
    }

    private static void whenRefused() {
        Edge.of("15", "NONE: 1.");
        Edge.withoutSlope("when");
        NorthVines x = Check.vines(Edge.ONE);
        Check.refused("when(2)", x, x.when(2), 1);
        for (int far : Edge.FAR) {
            Check.refused("when(" + far + ")", x, x.when(far), 1);
        }
    }

    private static void firstOfLike() {
        Edge.of("16", "The row that DOUBTS first so, of like ones the first;");
        NorthVines x = Check.vines(Edge.slope("0 0", "a plain 20 1", "b plain 10 1", "c plain 10 1", "d plain 10 1")
                + ";rumour a 20 day 20;rumour d 1 day 20;rumour c 1 day 19;rumour b 1 day 19");
        Check.answered("the first of b and c", x, x.first(), 1);
        NorthVines late = Check.vines(Edge.slope("0 0", "a plain 20 1", "b plain 10 1") + ";rumour b 1 day 20");
        Check.answered("behind the latest DAY of which anything is told", late, late.first(), 1);
        NorthVines last = Check.vines(SEVEN.replace("row g plain faith 10", "row g plain faith 9"));
        Check.answered("NOW, the last", last, last.first(), 6);
        NorthVines all = Check.vines(SEVEN.replace("faith 10", "faith 9"));
        Check.answered("NOW, the first of all", all, all.first(), 0);
    }

    private static void firstNone() {
        Edge.of("16", "-2. NONE: 1 (no SLOPE).");
        Edge.withoutSlope("first");
        NorthVines x = Check.vines(SEVEN);
        Check.answered("nobody", x, x.first(), -2);
    }

    private static void worstDay() {
        Edge.of("17", "Behind how many DAYS (0 .. 40) most DOUBT");
        NorthVines at40 = Check.vines(FALLING + ";rumour z 1 day 18");
        Check.answered("40", at40, at40.worstDay(), 40);
        NorthVines at41 = Check.vines(FALLING + ";rumour z 1 day 19");
        Check.answered("41 isn't asked for", at41, at41.worstDay(), 20);
        NorthVines now = Check.vines(Edge.slope("0 0", "a plain 9 1") + ";sign a 9 costs 0 day 0");
        now.show(0, true);
        Check.answered("0", now, now.worstDay(), 0);
    }

    private static void worstOfLike() {
        Edge.of("17", "the first such. NONE: 1 (no SLOPE).");
        Edge.withoutSlope("worstDay");
        NorthVines nobody = Check.vines(SEVEN);
        Check.answered("nobody ever", nobody, nobody.worstDay(), 0);
        NorthVines all = Check.vines(SEVEN.replace("faith 10", "faith 9"));
        Check.answered("all always", all, all.worstDay(), 0);
        NorthVines later = Check.vines(Edge.slope("0 0", "a plain 10 1") + ";rumour a 1 day 4");
        Check.answered("from 5 on", later, later.worstDay(), 5);
    }

    private static void still() {
        Edge.of("18", "Behind how many DAYS (0 .. 40) the next one changes nothing, the first such;");
        NorthVines at0 = Check.vines(SEVEN + ";rumour a 1 day 1");
        Check.answered("0, though a later one changes something", at0, at0.still(), 0);
        NorthVines at40 = Check.vines(RISING);
        Check.answered("40", at40, at40.still(), 40);
        NorthVines even = Check.vines(Edge.slope("0 0", "a plain 12 1") + ";rumour a 2 day 0;sign a 2 costs 0 day 0;rumour a 2 day 1");
        Check.answered("behind one more", even, even.still(), 2);
        even.show(0, true);
        Check.answered("what is told evens out", even, even.still(), 0);
        NorthVines low = Check.vines(Edge.slope("0 0", "a plain 0 1", "b plain 30 1") + ";rumour a 1 day 0;sign b 1 costs 0 day 0");
        low.show(0, true);
        Check.answered("cut off at both ends", low, low.still(), 0);
    }

    private static void stillNone() {
        Edge.of("18", "-2. NONE: 1 (no SLOPE).");
        Edge.withoutSlope("still");
        NorthVines beyond = Check.vines(RISING + ";row c plain faith 0 grapes 1;sees c b by 1");
        Check.answered("beyond 40", beyond, beyond.still(), -2);
        NorthVines swinging = Check.vines(Edge.slope("0 0", "a plain 9 1", "b plain 10 1") + ";sees a b by 1;sees b a by 1");
        Check.answered("never", swinging, swinging.still(), -2);
    }

    private static void harvestDays() {
        Edge.of("19", "GRAPES of all behind each of n DAYS (0 .. 40), together.");
        NorthVines x = Check.vines(SEVEN);
        Check.answered("harvest(0)", x, x.harvest(0), 0);
        Check.answered("harvest(1)", x, x.harvest(1), 693);
        Check.answered("harvest(40)", x, x.harvest(40), 27720);
        NorthVines falling = Check.vines(Edge.slope("5 0", "a plain 10 30") + ";rumour a 1 day 0;sign a 1 costs 0 day 1");
        Check.answered("NOW isn't one of them", falling, falling.harvest(1), 5);
        falling.show(0, true);
        Check.answered("each as it is then", falling, falling.harvest(3), 65);
    }

    private static void harvestRefused() {
        Edge.of("19", "NONE: 1 (no SLOPE); 2.");
        Edge.withoutSlope("harvest");
        NorthVines x = Check.vines(Edge.ONE);
        NorthVines none = new NorthVines();
        for (int n : Edge.NO_DAYS) {
            Check.refused("harvest(" + n + ")", x, x.harvest(n), 2);
            Check.refused("harvest(" + n + ") without a slope", none, none.harvest(n), 1);
        }
    }

    private static void reachItself() {
        Edge.of("20", "itself too.");
        NorthVines x = Check.vines(SEVEN);
        for (int r = 0; r < 7; r++) {
            Check.answered("reach(" + r + ") of nobody", x, x.reach(r), 1 << r);
        }
        NorthVines sees = Check.vines(Edge.ONE);
        Check.answered("who sees is not reached by it", sees, sees.reach(0), 1);
        Check.answered("who is seen reaches", sees, sees.reach(1), 3);
    }

    private static void reachOn() {
        Edge.of("20", "(those that see it, that see these, and so on)");
        String near = ";sees b a by 1;sees c b by 1;sees d c by 1;sees e d by 1;sees f e by 1;sees g f by 1";
        String far = ";sees g f by 1;sees f e by 1;sees e d by 1;sees d c by 1;sees c b by 1;sees b a by 1";
        for (String chain : new String[] {near, far}) {
            NorthVines x = Check.vines(SEVEN + chain + ";wall d c costs 1");
            for (int r = 0; r < 7; r++) {
                Check.answered("reach(" + r + ")", x, x.reach(r), 127 & -(1 << r));
            }
            x.put(0, true);
            Check.answered("up to the wall", x, x.reach(0), 7);
            Check.answered("behind the wall", x, x.reach(3), 120);
        }
        NorthVines ring = Check.vines(Edge.MOST);
        Check.answered("round and round", ring, ring.reach(3), 127);
    }

    private static void reachRefused() {
        Edge.of("20", "NONE: 1.");
        Edge.withoutSlope("reach");
        NorthVines x = Check.vines(Edge.ONE);
        Check.refused("reach(2)", x, x.reach(2), 1);
        for (int far : Edge.FAR) {
            Check.refused("reach(" + far + ")", x, x.reach(far), 1);
        }
    }
}
