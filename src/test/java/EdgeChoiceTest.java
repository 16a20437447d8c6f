/** Edges of Term III and promises 21 to 27: the fewest coins for signs, for walls. A test for each sentence. */
public final class EdgeChoiceTest {
    // The sign is of the latest DAY that there may be.
    private static final String LATE = Edge.slope("0 0", "a plain 9 8", "b plain 10 8") + ";sign a 1 costs 7 day 20";
    // All five walls are needed for a to believe behind one DAY; behind two it does by what it sees.
    private static final String FIVE = Edge.slope("0 0", "a plain 10 1", "b plain 9 1", "c plain 9 1", "d plain 9 1", "e plain 9 1",
            "f plain 9 1", "t plain 30 1") + ";sees a b by 1;sees a c by 1;sees a d by 1;sees a e by 1;sees a f by 1"
            + ";sees b t by 1;sees c t by 1;sees d t by 1;sees e t by 1;sees f t by 1"
            + ";wall a b costs 99;wall a c costs 99;wall a d costs 99;wall a e costs 99;wall a f costs 99";
    // Behind a DAY z believes by t, and a does if it doesn't see z or y doubt.
    private static final String TWO = Edge.slope("0 0", "a plain 11 1", "y plain 9 1", "z plain 9 1", "t plain 30 1")
            + ";sees a y by 1;sees a z by 1;sees y t by 1;sees z t by 1";

    public static void main(String[] args) {
        signs();
        walls();
        cuts();
        Edge.covered(21, 27);
        Check.end("EdgeChoiceTest");
    }

    private static void signs() {
        fewestCoins();
        notShown();
        fewestSigns();
        leastBits();
        feignDays();
        feignAll();
        feignCannot();
        feignRefused();
        feignSignsCannot();
        feignSignsRefused();
        feignForOne();
        feignForCannot();
        feignForRefused();
        bestOfLike();
        bestNotShown();
        bestNone();
        bestRefused();
    }

    private static void walls() {
        notUp();
        wallsFewest();
        wallsDays();
        wallsCannot();
        wallsRefused();
        wallsUpBits();
        wallsUpCannot();
        wallsUpRefused();
    }

    private static void cuts() {
        cutNobody();
        cutFewest();
        cutNotUp();
        cutCannot();
        cutRefused();
    }

    private static void feigned(NorthVines x, int n, int coins, int bits) {
        Check.answered("feign(" + n + ")", x, x.feign(n), coins);
        Check.answered("feignSigns(" + n + ")", x, x.feignSigns(n), bits);
    }

    private static void walled(NorthVines x, int n, int coins, int bits) {
        Check.answered("walls(" + n + ")", x, x.walls(n), coins);
        Check.answered("wallsUp(" + n + ")", x, x.wallsUp(n), bits);
    }

    // ---- signs

    private static void fewestCoins() {
        Edge.of("III", "FEIGN for n DAYS: the fewest coins for signs not SHOWN NOW by which, SHOWN too, all rows believe behind n DAYS");
        String two = Edge.slope("0 0", "a plain 8 1") + ";sign a 1 costs 4 day 0;sign a 1 costs 4 day 0";
        feigned(Check.vines(two + ";sign a 2 costs 9 day 0"), 1, 8, 3);
        feigned(Check.vines(two + ";sign a 2 costs 7 day 0"), 1, 7, 4);
        feigned(Check.vines(Edge.slope("0 0", "a plain 8 1") + ";sign a 2 costs 9 day 0;sign a 1 costs 4 day 0;sign a 1 costs 4 day 0"), 1, 8, 6);
        feigned(Check.vines(Edge.slope("0 0", "a plain 8 1") + ";sign a 2 costs 99 day 0;sign a 2 costs 0 day 0"), 1, 0, 2);
        NorthVines all = Check.vines(Edge.slope("0 0", "a plain 9 1", "b plain 9 1") + ";sign a 1 costs 2 day 0;sign b 1 costs 3 day 0");
        feigned(all, 1, 5, 3);
    }

    private static void notShown() {
        Edge.of("III", "for signs not SHOWN NOW");
        NorthVines x = Check.vines(Edge.slope("0 0", "a plain 8 1") + ";sign a 1 costs 40 day 0;sign a 1 costs 3 day 0;sign a 1 costs 2 day 0");
        feigned(x, 1, 5, 6);
        x.show(2, true);
        feigned(x, 1, 3, 2);
        x.show(1, true);
        feigned(x, 1, 0, 0);
        x.show(0, true);
        feigned(x, 1, 0, 0);
        Check.due("what is shown stays", x.spent(), 45);
        NorthVines six = Check.vines(Edge.slope("0 0", "a plain 5 1") + ";sign a 1 costs 1 day 0".repeat(6));
        for (int k = 5; k >= 1; k--) {
            six.show(k, true);
        }
        feigned(six, 1, 0, 0);
        six.show(3, false);
        feigned(six, 1, 1, 1);
    }

    private static void fewestSigns() {
        Edge.of("III", "of like ones the fewest signs");
        String two = Edge.slope("0 0", "a plain 8 1") + ";sign a 1 costs 4 day 0;sign a 1 costs 4 day 0";
        feigned(Check.vines(two + ";sign a 2 costs 8 day 0"), 1, 8, 4);
        feigned(Check.vines(Edge.slope("0 0", "a plain 8 1") + ";sign a 2 costs 8 day 0;sign a 1 costs 4 day 0;sign a 1 costs 4 day 0"), 1, 8, 1);
        // Idle signs for nothing are left out.
        feigned(Check.vines(Edge.slope("0 0", "a plain 9 1") + ";sign a 1 costs 0 day 9;sign a 1 costs 0 day 0;sign a 1 costs 0 day 9"), 1, 0, 2);
        feigned(Check.vines(Edge.slope("0 0", "a plain 10 1") + ";sign a 1 costs 0 day 0;sign a 1 costs 0 day 0"), 1, 0, 0);
    }

    private static void leastBits() {
        Edge.of("III", "of these the least bits.");
        String six = ";sign a 1 costs 4 day 0".repeat(6);
        feigned(Check.vines(Edge.slope("0 0", "a plain 9 1") + six), 1, 4, 1);
        feigned(Check.vines(Edge.slope("0 0", "a plain 8 1") + six), 1, 8, 3);
        feigned(Check.vines(Edge.slope("0 0", "a plain 7 1") + six), 1, 12, 7);
        // 0 and 3 are 9, 1 and 2 are 6.
        feigned(Check.vines(Edge.slope("0 0", "a plain 5 1") + ";sign a 1 costs 1 day 0;sign a 2 costs 2 day 0;sign a 3 costs 2 day 0"
                + ";sign a 4 costs 3 day 0"), 1, 4, 6);
    }

    private static void feignDays() {
        Edge.of("21", "FEIGN for n DAYS (0 .. 40): the coins;");
        NorthVines x = Check.vines(LATE);
        feigned(x, 0, -2, -2);
        feigned(x, 20, -2, -2);
        feigned(x, 21, 7, 1);
        feigned(x, 40, 7, 1);
        feigned(x, 0, -2, -2);
        NorthVines believing = Check.vines(Edge.slope("0 0", "a plain 10 1"));
        feigned(believing, 0, 0, 0);
        feigned(believing, 40, 0, 0);
    }

    private static void feignAll() {
        Edge.of("21", "the coins;");
        NorthVines x = Check.vines(Edge.slope("0 0", "a plain 4 1") + ";sign a 1 costs 99 day 0".repeat(6));
        feigned(x, 1, 594, 63);
        NorthVines one = Check.vines(Edge.slope("0 0", "a plain 3 1") + ";sign a 1 costs 99 day 0".repeat(6));
        feigned(one, 1, -2, -2);
    }

    private static void feignCannot() {
        Edge.of("21", "-2 it can't be.");
        feigned(Check.vines(Edge.slope("0 0", "a plain 9 1")), 5, -2, -2);
        feigned(Check.vines(Edge.slope("0 0", "a deaf 9 1") + ";sign a 20 costs 0 day 0"), 5, -2, -2);
        NorthVines past = Check.vines(Edge.slope("0 0", "a plain 9 1") + ";sign a 20 costs 0 day 0");
        past.day();
        feigned(past, 40, -2, -2);
        // One of two rows isn't all rows.
        feigned(Check.vines(Edge.slope("0 0", "a plain 9 1", "b plain 9 1") + ";sign a 20 costs 0 day 0"), 5, -2, -2);
        feigned(Check.vines(Edge.slope("0 0", "a plain 9 1", "b plain 9 1") + ";sign b 20 costs 0 day 0"), 5, -2, -2);
    }

    private static void feignRefused() {
        Edge.of("21", "NONE: 1 (no SLOPE); 2.");
        Edge.withoutSlope("feign");
        NorthVines x = Check.vines(LATE);
        NorthVines none = new NorthVines();
        for (int n : Edge.NO_DAYS) {
            Check.refused("feign(" + n + ")", x, x.feign(n), 2);
            Check.refused("feign(" + n + ") without a slope", none, none.feign(n), 1);
        }
    }

    private static void feignSignsCannot() {
        Edge.of("22", "Its signs, as bits; -2.");
        NorthVines x = Check.vines(Edge.slope("0 0", "a plain 9 1") + ";sign a 1 costs 9 day 1".repeat(5) + ";sign a 1 costs 9 day 0");
        Check.answered("the last alone", x, x.feignSigns(1), 32);
        Check.answered("the first alone", x, x.feignSigns(2), 1);
        Check.answered("none does", x, x.feignSigns(0), -2);
        x.day();
        x.day();
        Check.answered("none does any more", x, x.feignSigns(40), -2);
    }

    private static void feignSignsRefused() {
        Edge.of("22", "NONE: 1 (no SLOPE); 2.");
        Edge.withoutSlope("feignSigns");
        NorthVines x = Check.vines(LATE);
        NorthVines none = new NorthVines();
        for (int n : Edge.NO_DAYS) {
            Check.refused("feignSigns(" + n + ")", x, x.feignSigns(n), 2);
            Check.refused("feignSigns(" + n + ") without a slope", none, none.feignSigns(n), 1);
        }
    }

    private static void feignForOne() {
        Edge.of("23", "The fewest coins for signs not SHOWN NOW by which a row believes behind n DAYS;");
        NorthVines x = Check.vines(Edge.slope("0 0", "a plain 9 1", "b plain 9 1", "c plain 10 1")
                + ";sign a 1 costs 99 day 0;sign b 1 costs 5 day 0;sign b 1 costs 4 day 0");
        Check.answered("a", x, x.feignFor(0, 1), 99);
        Check.answered("b, the cheaper one", x, x.feignFor(1, 1), 4);
        Check.answered("c", x, x.feignFor(2, 1), 0);
        Check.answered("c, NOW", x, x.feignFor(2, 0), 0);
        x.show(2, true);
        Check.answered("b, shown", x, x.feignFor(1, 1), 0);
        NorthVines late = Check.vines(LATE);
        Check.answered("behind 21", late, late.feignFor(0, 21), 7);
        Check.answered("behind 40", late, late.feignFor(0, 40), 7);
        // By a sign to another one: b sees a believe behind one DAY.
        NorthVines by = Check.vines(Edge.slope("0 0", "a plain 9 1", "b plain 9 1") + ";sees b a by 1;sign a 20 costs 3 day 0");
        Check.answered("by another row, too early", by, by.feignFor(1, 1), -2);
        Check.answered("by another row", by, by.feignFor(1, 3), 3);
    }

    private static void feignForCannot() {
        Edge.of("23", "-2.");
        NorthVines x = Check.vines(LATE);
        Check.answered("NOW", x, x.feignFor(0, 0), -2);
        Check.answered("too early", x, x.feignFor(0, 20), -2);
        NorthVines deaf = Check.vines(Edge.slope("0 0", "a deaf 9 1") + ";sign a 20 costs 0 day 0");
        Check.answered("deaf", deaf, deaf.feignFor(0, 40), -2);
    }

    private static void feignForRefused() {
        Edge.of("23", "NONE: 1; 2.");
        Edge.withoutSlope("feignFor");
        NorthVines x = Check.vines(LATE);
        for (int n : Edge.NO_DAYS) {
            Check.refused("feignFor(1, " + n + ")", x, x.feignFor(1, n), 2);
            Check.refused("feignFor(2, " + n + "), 1 comes first", x, x.feignFor(2, n), 1);
        }
        Check.refused("feignFor(2, 0)", x, x.feignFor(2, 0), 1);
        for (int far : Edge.FAR) {
            Check.refused("feignFor(" + far + ", 40)", x, x.feignFor(far, 40), 1);
        }
    }

    private static void bestOfLike() {
        Edge.of("24", "most GRAPES more are borne in n DAYS, the first such;");
        NorthVines x = Check.vines(Edge.slope("5 0", "a plain 9 20", "b plain 9 21", "c plain 9 21")
                + ";sign a 1 costs 0 day 0;sign b 1 costs 99 day 0;sign c 1 costs 0 day 0");
        Check.answered("the first of b and c", x, x.bestSign(1), 1);
        NorthVines one = Check.vines(Edge.slope("5 0", "a plain 9 6") + ";sign a 1 costs 99 day 20");
        Check.answered("a single grape more", one, one.bestSign(21), 0);
        Check.answered("behind 40", one, one.bestSign(40), 0);
        // a bears 15 more for two DAYS, b 16 more for one.
        NorthVines days = Check.vines(Edge.slope("5 0", "a plain 9 20", "b plain 9 21") + ";sign b 1 costs 0 day 1;sign a 1 costs 0 day 0");
        Check.answered("all of the n DAYS count", days, days.bestSign(2), 1);
        Check.answered("in the long run", days, days.bestSign(40), 0);
    }

    private static void bestNotShown() {
        Edge.of("24", "The sign not SHOWN NOW by which, SHOWN too,");
        NorthVines x = Check.vines(Edge.slope("5 0", "a plain 8 20") + ";sign a 1 costs 0 day 0;sign a 1 costs 0 day 0;sign a 1 costs 0 day 0");
        Check.answered("one alone isn't enough", x, x.bestSign(1), -2);
        x.show(0, true);
        Check.answered("with one shown", x, x.bestSign(1), 1);
        x.show(1, true);
        Check.answered("with all that is needed", x, x.bestSign(1), -2);
        x.show(2, true);
        Check.answered("with all", x, x.bestSign(1), -2);
        NorthVines last = Check.vines(Edge.slope("5 0", "a plain 5 20") + ";sign a 1 costs 0 day 0".repeat(6));
        for (int k = 0; k < 4; k++) {
            last.show(k, true);
        }
        Check.answered("the first of two that are left", last, last.bestSign(1), 4);
        last.show(3, false);
        last.show(5, true);
        Check.answered("the same the other way", last, last.bestSign(1), 3);
    }

    private static void bestNone() {
        Edge.of("24", "-2 by none more.");
        NorthVines none = Check.vines(Edge.slope("5 0", "a plain 9 20"));
        Check.answered("there is none", none, none.bestSign(3), -2);
        NorthVines x = Check.vines(Edge.slope("5 0", "a plain 9 20") + ";sign a 1 costs 0 day 2");
        Check.answered("in no DAYS", x, x.bestSign(0), -2);
        Check.answered("too early", x, x.bestSign(2), -2);
        Check.answered("in time", x, x.bestSign(3), 0);
        NorthVines like = Check.vines(Edge.slope("20 0", "a plain 9 20") + ";sign a 1 costs 0 day 0");
        Check.answered("as many anyway", like, like.bestSign(3), -2);
    }

    private static void bestRefused() {
        Edge.of("24", "NONE: 1 (no SLOPE); 2.");
        Edge.withoutSlope("bestSign");
        NorthVines x = Check.vines(LATE);
        NorthVines none = new NorthVines();
        for (int n : Edge.NO_DAYS) {
            Check.refused("bestSign(" + n + ")", x, x.bestSign(n), 2);
            Check.refused("bestSign(" + n + ") without a slope", none, none.bestSign(n), 1);
        }
    }

    // ---- walls

    private static void notUp() {
        Edge.of("III", "WALLS for n DAYS: likewise for walls not up NOW.");
        NorthVines x = Check.vines(TWO + ";wall a y costs 5;wall a z costs 3");
        walled(x, 1, 3, 2);
        x.put(0, true);
        walled(x, 1, 0, 0);
        x.put(1, true);
        walled(x, 1, 0, 0);
        Check.due("what is up stays", x.spent(), 8);
        NorthVines five = Check.vines(FIVE);
        for (int k = 1; k < 5; k++) {
            five.put(k, true);
        }
        walled(five, 1, 99, 1);
        five.put(0, true);
        walled(five, 1, 0, 0);
    }

    private static void wallsFewest() {
        Edge.of("III", "likewise");
        walled(Check.vines(TWO + ";wall a y costs 5;wall a z costs 5"), 1, 5, 1);
        walled(Check.vines(TWO + ";wall a z costs 5;wall a y costs 5"), 1, 5, 1);
        // Idle walls for nothing are left out, and walls that do harm.
        walled(Check.vines(TWO + ";wall y t costs 0;wall a z costs 0;wall a y costs 0"), 1, 0, 2);
        walled(Check.vines(TWO.replace("plain faith 11", "plain faith 12") + ";wall a z costs 0;wall a y costs 0"), 1, 0, 0);
    }

    private static void wallsDays() {
        Edge.of("25", "WALLS for n DAYS (0 .. 40): the coins;");
        NorthVines x = Check.vines(FIVE);
        walled(x, 0, -2, -2);
        walled(x, 1, 495, 31);
        walled(x, 2, 0, 0);
        walled(x, 40, 0, 0);
        walled(x, 0, -2, -2);
        NorthVines believing = Check.vines(Edge.slope("0 0", "a plain 10 1"));
        walled(believing, 0, 0, 0);
        walled(believing, 40, 0, 0);
        // If the sign is shown, z believes behind 31 DAYS, by t; a, if it saw it until then, is 9 behind 40.
        NorthVines forty = Check.vines(Edge.slope("0 0", "a plain 30 1", "t plain 10 1", "z plain 0 1") + ";sees z t by 1;sees a z by 2"
                + ";wall a z costs 6;rumour t 1 day 0;sign t 2 costs 0 day 20");
        walled(forty, 40, -2, -2);
        forty.show(0, true);
        Check.due("z is 10 behind 31", forty.faithIn(2, 31), 10);
        walled(forty, 30, -2, -2);
        walled(forty, 31, 6, 1);
        walled(forty, 40, 6, 1);
    }

    private static void wallsCannot() {
        Edge.of("25", "the coins; -2.");
        walled(Check.vines(Edge.slope("0 0", "a plain 9 1")), 5, -2, -2);
        walled(Check.vines(Edge.slope("0 0", "a plain 30 1", "z plain 0 1") + ";sees a z by 9;wall a z costs 0"), 5, -2, -2);
        walled(Check.vines(TWO.replace("plain faith 11", "plain faith 10") + ";wall a z costs 1"), 1, -2, -2);
    }

    private static void wallsRefused() {
        Edge.of("25", "NONE: 1 (no SLOPE); 2.");
        Edge.withoutSlope("walls");
        NorthVines x = Check.vines(FIVE);
        NorthVines none = new NorthVines();
        for (int n : Edge.NO_DAYS) {
            Check.refused("walls(" + n + ")", x, x.walls(n), 2);
            Check.refused("walls(" + n + ") without a slope", none, none.walls(n), 1);
        }
    }

    private static void wallsUpBits() {
        Edge.of("26", "Those of it, as bits;");
        NorthVines x = Check.vines(TWO.replace("plain faith 11", "plain faith 10") + ";wall z t costs 1;wall a z costs 1;wall y t costs 0;wall a y costs 1");
        Check.answered("two of four", x, x.wallsUp(1), 10);
        NorthVines five = Check.vines(FIVE);
        five.put(2, true);
        Check.answered("all but the one that is up", five, five.wallsUp(1), 27);
    }

    private static void wallsUpCannot() {
        Edge.of("26", "as bits; -2.");
        NorthVines x = Check.vines(FIVE);
        Check.answered("NOW", x, x.wallsUp(0), -2);
        NorthVines none = Check.vines(Edge.slope("0 0", "a plain 9 1"));
        Check.answered("no wall", none, none.wallsUp(40), -2);
    }

    private static void wallsUpRefused() {
        Edge.of("26", "NONE: 1 (no SLOPE); 2.");
        Edge.withoutSlope("wallsUp");
        NorthVines x = Check.vines(FIVE);
        NorthVines none = new NorthVines();
        for (int n : Edge.NO_DAYS) {
            Check.refused("wallsUp(" + n + ")", x, x.wallsUp(n), 2);
            Check.refused("wallsUp(" + n + ") without a slope", none, none.wallsUp(n), 1);
        }
    }

    // ---- cuts

    private static void cutNobody() {
        Edge.of("III", "nobody sees it, nor by others (a row that sees one that sees it, and so on)");
        NorthVines x = Check.vines(FIVE);
        Check.answered("cut(0), which nobody sees", x, x.cut(0), 0);
        NorthVines chain = Check.vines(Edge.slope("0 0", "a plain 10 1", "b plain 10 1", "c plain 10 1") + ";sees b a by 1;sees c b by 1"
                + ";wall c b costs 0;wall b a costs 99");
        Check.answered("behind the wall next to it nobody does by others", chain, chain.cut(0), 2);
        Check.answered("cut(1)", chain, chain.cut(1), 1);
        Check.answered("cut(2)", chain, chain.cut(2), 0);
        chain.put(0, true);
        Check.answered("the far one doesn't help", chain, chain.cut(0), 2);
        NorthVines ring = Check.vines(Edge.slope("0 0", "a plain 10 1", "b plain 10 1", "c plain 10 1")
                + ";sees a b by 1;sees b c by 1;sees c a by 1;wall b c costs 0;wall a b costs 0;wall c a costs 0");
        Check.answered("ring: cut(0)", ring, ring.cut(0), 4);
        Check.answered("ring: cut(1)", ring, ring.cut(1), 2);
        Check.answered("ring: cut(2)", ring, ring.cut(2), 1);
    }

    private static void cutFewest() {
        Edge.of("III", "CUT of a row: the fewest walls not up NOW by which, up too,");
        NorthVines x = Check.vines(Edge.slope("0 0", "a plain 10 1", "b plain 10 1", "c plain 10 1", "d plain 10 1", "e plain 10 1", "f plain 10 1")
                + ";sees b a by 1;sees c a by 1;sees d a by 1;sees e a by 1;sees f a by 1"
                + ";wall b a costs 99;wall c a costs 99;wall d a costs 99;wall e a costs 99;wall f a costs 99");
        Check.answered("all five", x, x.cut(0), 31);
        Check.answered("who sees isn't seen", x, x.cut(1), 0);
    }

    private static void cutNotUp() {
        Edge.of("27", "CUT, as bits of walls;");
        NorthVines x = Check.vines(Edge.MOST);
        Check.answered("cut(0), by b and g", x, x.cut(0), 4 + 8);
        Check.answered("cut(1), by a alone has a wall", x, x.cut(1), -2);
        x.put(2, true);
        Check.answered("with one up", x, x.cut(0), 8);
        x.put(3, true);
        Check.answered("with both up", x, x.cut(0), 0);
        Check.due("nothing is put up by it", x.spent(), 198);
    }

    private static void cutCannot() {
        Edge.of("27", "as bits of walls; -2.");
        NorthVines x = Check.vines(FIVE);
        Check.answered("t, by five without a wall", x, x.cut(6), -2);
        Check.answered("b, by a alone", x, x.cut(1), 1);
        NorthVines none = Check.vines(Edge.slope("0 0", "a plain 10 1", "b plain 10 1") + ";sees b a by 1");
        Check.answered("no wall at all", none, none.cut(0), -2);
        Check.answered("no wall needed", none, none.cut(1), 0);
    }

    private static void cutRefused() {
        Edge.of("27", "NONE: 1.");
        Edge.withoutSlope("cut");
        NorthVines x = Check.vines(Edge.ONE);
        Check.refused("cut(2)", x, x.cut(2), 1);
        for (int far : Edge.FAR) {
            Check.refused("cut(" + far + ")", x, x.cut(far), 1);
        }
    }
}
