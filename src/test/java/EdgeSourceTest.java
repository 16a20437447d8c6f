/** Edges of Term III and promises 28 to 38: which rumours there were, telling, two parties. A test for each sentence. */
public final class EdgeSourceTest {
    private static final String SEVEN = Edge.slope("0 0", "a plain 10 1", "b plain 10 1", "c plain 10 1", "d plain 10 1",
            "e plain 10 1", "f plain 10 1", "g plain 10 1");
    private static final String A = Edge.slope("0 0", "a plain 12 1");

    public static void main(String[] args) {
        source();
        looking();
        telling();
        parties();
        Edge.covered(28, 38);
        Check.end("EdgeSourceTest");
    }

    private static void source() {
        others();
        allThatFit();
        fromTheBeginning();
        behindThatDay();
        setsHowMany();
        setsRefused();
        setByBits();
        setNone();
        could();
        surely();
    }

    private static void looking() {
        lookDays();
        lookFewest();
        lookFirst();
        lookPlace();
        lookNone();
        lookLeaves();
        judgeFirst();
        judgeNone();
    }

    private static void telling() {
        faithNought();
        tellFirst();
        tellDays();
        tellRefused();
        tellMost();
        tellMostRefused();
    }

    private static void parties() {
        oneShowsFirst();
        notShown();
        thoseOfTheOne();
        bothPassed();
        noSignLeft();
        valueDays();
        valueRefused();
        takeFirst();
        takePassing();
        takeRefused();
    }

    private static void sets(String what, NorthVines x, int... sets) {
        Check.answered(what + ": sets()", x, x.sets(), sets.length);
        int some = 0;
        int every = sets.length == 0 ? 0 : sets[0];
        for (int i = 0; i < sets.length; i++) {
            Check.answered(what + ": setAt(" + i + ")", x, x.setAt(i), sets[i]);
            some |= sets[i];
            every &= sets[i];
        }
        Check.refused(what + ": setAt(" + sets.length + ")", x, x.setAt(sets.length), 1);
        Check.answered(what + ": could()", x, x.could(), some);
        Check.answered(what + ": surely()", x, x.surely(), every);
    }

    private static void look(String what, NorthVines x, int place, int leaves) {
        Check.answered(what + ": look()", x, x.look(), place);
        Check.answered(what + ": lookLeaves()", x, x.lookLeaves(), leaves);
    }

    private static void play(String what, NorthVines x, int n, int value, int take) {
        Check.answered(what + ": value(" + n + ")", x, x.value(n), value);
        Check.answered(what + ": take(" + n + ")", x, x.take(n), take);
    }

    // ---- source

    private static void others() {
        Edge.of("III", "SOURCE: sets of rumours that there were (the others there weren't)");
        // 12 less 2 is 10: it takes both for a to doubt; what b was told doesn't matter.
        NorthVines x = Check.vines(Edge.slope("0 0", "a plain 12 1", "b plain 12 1") + ";rumour a 2 day 0;rumour a 2 day 1;rumour b 3 day 0"
                + ";doubted a day 3");
        sets("both to a", x, 3, 7);
        NorthVines none = Check.vines(A + ";rumour a 20 day 0;believed a day 0");
        sets("there wasn't one", none, 0);
        NorthVines one = Check.vines(A + ";rumour a 20 day 0;doubted a day 0");
        sets("there was one", one, 1);
    }

    private static void allThatFit() {
        Edge.of("III", "what was seen (doubted, believed: behind the DAY of that number) is so: all sets that fit.");
        String text = A + ";rumour a 3 day 0;rumour a 1 day 1;rumour a 2 day 1";
        sets("nothing seen", Check.vines(text), 0, 1, 2, 3, 4, 5, 6, 7);
        sets("one seen", Check.vines(text + ";doubted a day 2"), 1, 3, 5, 6, 7);
        sets("two seen", Check.vines(text + ";doubted a day 2;believed a day 0"), 6);
        sets("two seen, told the other way", Check.vines(text + ";believed a day 0;doubted a day 2"), 6);
        String two = Edge.slope("0 0", "a plain 12 1", "b plain 12 1", "c plain 9 1") + ";rumour a 3 day 0;rumour b 3 day 0";
        sets("of another row than the first rumour's", Check.vines(two + ";doubted b day 0"), 2, 3);
        sets("of both, told the other way", Check.vines(two + ";believed b day 0;doubted a day 0"), 1);
        sets("of one without a rumour", Check.vines(two + ";doubted c day 0"), 0, 1, 2, 3);
        sets("of one without a rumour, which isn't so", Check.vines(two + ";believed c day 0"));
        sets("what can't both be", Check.vines(text + ";doubted a day 0;believed a day 1"));
        sets("five seen", Check.vines(text + ";doubted a day 0;doubted a day 1;doubted a day 2;doubted a day 19;doubted a day 20"), 1, 3, 5, 7);
        sets("the last of five isn't so", Check.vines(text + ";doubted a day 0;doubted a day 1;doubted a day 2;doubted a day 19;believed a day 20"));
    }

    private static void fromTheBeginning() {
        Edge.of("III", "from the beginning, with signs and walls as NOW");
        NorthVines x = Check.vines(Edge.slope("0 0", "a plain 12 1", "z plain 9 1") + ";sees a z by 3;wall a z costs 1;sign a 3 costs 1 day 0"
                + ";rumour a 3 day 0;doubted a day 0");
        sets("at first", x, 0, 1);
        x.put(0, true);
        sets("with the wall", x, 1);
        x.show(0, true);
        sets("with the sign too", x);
        x.put(0, false);
        sets("with the sign alone", x, 1);
        x.day();
        x.day();
        sets("behind DAYS", x, 1);
        x.show(0, false);
        sets("behind DAYS, though the sign was shown on its DAY", x, 0, 1);
        Check.due("NOW stays", x.size(8), 2);
    }

    private static void behindThatDay() {
        Edge.of("III", "(doubted, believed: behind the DAY of that number)");
        for (int day : new int[] {0, 1, 19, 20}) {
            String text = A + ";rumour a 3 day " + day;
            sets("doubted, of " + day, Check.vines(text + ";doubted a day " + day), 1);
            sets("believed, of " + day, Check.vines(text + ";believed a day " + day), 0);
            if (day > 0) {
                sets("doubted too early, of " + day, Check.vines(text + ";doubted a day " + (day - 1)));
                sets("believed before, of " + day, Check.vines(text + ";believed a day " + (day - 1)), 0, 1);
            }
            if (day < 20) {
                sets("doubted still, of " + day, Check.vines(text + ";doubted a day " + (day + 1)), 1);
            }
        }
    }

    private static void setsHowMany() {
        Edge.of("28", "SOURCE: how many sets.");
        sets("no rumour, nothing seen", Check.vines(A), 0);
        sets("no rumour, what is so", Check.vines(A + ";believed a day 20"), 0);
        sets("no rumour, what isn't so", Check.vines(A + ";doubted a day 20"));
        int[] all = new int[32];
        for (int i = 0; i < 32; i++) {
            all[i] = i;
        }
        sets("five rumours, nothing seen", Check.vines(A + ";rumour a 1 day 0".repeat(5)), all);
        sets("all of five", Check.vines(Edge.slope("0 0", "a plain 14 1") + ";rumour a 1 day 0".repeat(5) + ";doubted a day 0"), 31);
        sets("none of five", Check.vines(Edge.slope("0 0", "a plain 10 1") + ";rumour a 1 day 0".repeat(5) + ";believed a day 0"), 0);
        sets("not even all of five", Check.vines(Edge.slope("0 0", "a plain 15 1") + ";rumour a 1 day 0".repeat(5) + ";doubted a day 0"));
    }

    private static void setsRefused() {
        Edge.of("28", "NONE: 1 (no SLOPE).");
        Edge.withoutSlope("sets");
    }

    private static void setByBits() {
        Edge.of("29", "The i-th, by bits of rumours.");
        // Four of five are needed.
        sets("four of five", Check.vines(Edge.slope("0 0", "a plain 13 1") + ";rumour a 1 day 0".repeat(5) + ";doubted a day 0"),
                15, 23, 27, 29, 30, 31);
    }

    private static void setNone() {
        Edge.of("29", "NONE: 1.");
        Edge.withoutSlope("setAt");
        NorthVines five = Check.vines(A + ";rumour a 1 day 0".repeat(5));
        Check.answered("setAt(31)", five, five.setAt(31), 31);
        Check.refused("setAt(32)", five, five.setAt(32), 1);
        NorthVines x = Check.vines(A + ";doubted a day 20");
        Check.refused("setAt(0) of none", x, x.setAt(0), 1);
        for (int far : Edge.FAR) {
            Check.refused("setAt(" + far + ")", five, five.setAt(far), 1);
            Check.refused("setAt(" + far + ") of none", x, x.setAt(far), 1);
        }
    }

    private static void could() {
        Edge.of("30", "Rumours that are in some, as bits. NONE: 1 (no SLOPE).");
        Edge.withoutSlope("could");
        NorthVines x = Check.vines(A + ";rumour a 3 day 0;rumour a 20 day 9;rumour a 3 day 0;rumour a 1 day 0;rumour a 20 day 20;believed a day 9");
        // Not the second, not the first or third; the fourth, and the fifth, which comes too late to be seen.
        Check.answered("could()", x, x.could(), 24);
        NorthVines none = Check.vines(A + ";rumour a 1 day 0;doubted a day 20");
        Check.answered("no set", none, none.could(), 0);
        NorthVines empty = Check.vines(A);
        Check.answered("no rumour", empty, empty.could(), 0);
    }

    private static void surely() {
        Edge.of("31", "Rumours that are in all (0 without a set), as bits. NONE: 1 (no SLOPE).");
        Edge.withoutSlope("surely");
        NorthVines none = Check.vines(A + ";rumour a 1 day 0;doubted a day 20");
        Check.answered("no set", none, none.surely(), 0);
        NorthVines x = Check.vines(A + ";rumour a 1 day 0;rumour a 2 day 0;rumour a 1 day 0;doubted a day 0");
        Check.answered("the second in all, and one of the others", x, x.surely(), 2);
        NorthVines all = Check.vines(Edge.slope("0 0", "a plain 14 1") + ";rumour a 1 day 0".repeat(5) + ";doubted a day 0");
        Check.answered("all five in the only one", all, all.surely(), 31);
        NorthVines only = Check.vines(A + ";rumour a 3 day 0;believed a day 0");
        Check.answered("none in the only one", only, only.surely(), 0);
    }

    // ---- looking

    private static void lookDays() {
        Edge.of("III", "LOOK: the row and the DAY (0 .. 20)");
        look("0", Check.vines(A + ";rumour a 3 day 0"), 0, 1);
        look("20", Check.vines(A + ";rumour a 3 day 20"), 20, 1);
        look("the last row, 20", Check.vines(SEVEN + ";rumour g 1 day 20"), 620, 1);
        look("the last row, 0", Check.vines(SEVEN + ";rumour g 1 day 0"), 600, 1);
        // Behind the DAY 20 a is 10; that it doubts behind 21 can't be looked at.
        look("21 isn't looked at", Check.vines(Edge.slope("0 0", "a plain 11 1", "z plain 10 1") + ";sees a z by 2;rumour z 1 day 20"), 120, 1);
    }

    private static void lookFewest() {
        Edge.of("III", "it being told whether it DOUBTED behind it, at most fewest sets are left");
        NorthVines x = Check.vines(Edge.slope("0 0", "a plain 12 1", "b plain 12 1") + ";rumour a 1 day 0;rumour a 1 day 1;rumour a 1 day 2");
        look("a by all three", x, 2, 7);
        // By a 6 of 8 are left at most.
        NorthVines halves = Check.vines(Edge.slope("0 0", "a plain 12 1", "b plain 12 1") + ";rumour a 1 day 0;rumour a 2 day 1;rumour b 3 day 9");
        look("b in halves", halves, 109, 4);
        NorthVines most = Check.vines(Edge.slope("0 0", "a plain 10 1") + ";rumour a 1 day 3".repeat(2));
        look("the greater part doubts", most, 3, 3);
    }

    private static void lookFirst() {
        Edge.of("III", "the first such by rows, DAYS.");
        NorthVines x = Check.vines(Edge.slope("0 0", "a plain 10 1", "b plain 10 1") + ";rumour b 1 day 2;rumour a 1 day 9");
        look("the first row, though the other one sooner", x, 9, 2);
        NorthVines days = Check.vines(A + ";rumour a 3 day 5");
        look("the first DAY of those from 5 on", days, 5, 1);
        NorthVines like = Check.vines(Edge.slope("0 0", "a deaf 12 1", "b deaf 2 1") + ";rumour a 20 day 3");
        look("all alike", like, 0, 2);
    }

    private static void lookPlace() {
        Edge.of("32", "LOOK: 100 times the row and the DAY;");
        look("row 3, DAY 7", Check.vines(SEVEN + ";rumour d 1 day 7"), 307, 1);
        look("row 1, DAY 0", Check.vines(SEVEN + ";rumour b 1 day 0"), 100, 1);
    }

    private static void lookNone() {
        Edge.of("32", "-2 no set fits. NONE: 1 (no SLOPE).");
        Edge.withoutSlope("look");
        look("none", Check.vines(A + ";rumour a 3 day 9;doubted a day 0"), -2, -2);
        look("one alone", Check.vines(A + ";rumour a 3 day 9;doubted a day 9"), 0, 1);
        look("no rumour", Check.vines(A), 0, 1);
        look("no rumour, what isn't so", Check.vines(A + ";doubted a day 0"), -2, -2);
    }

    private static void lookLeaves() {
        Edge.of("33", "How many are left at most then; -2 likewise. NONE: 1 (no SLOPE).");
        Edge.withoutSlope("lookLeaves");
        NorthVines all = Check.vines(Edge.slope("0 0", "a deaf 12 1") + ";rumour a 20 day 3".repeat(5));
        Check.answered("all of 32", all, all.lookLeaves(), 32);
        NorthVines half = Check.vines(Edge.slope("0 0", "a plain 12 1") + ";rumour a 3 day 3" + ";rumour a 1 day 20".repeat(4));
        Check.answered("half of 32", half, half.lookLeaves(), 16);
        NorthVines none = Check.vines(A + ";doubted a day 0");
        Check.answered("-2", none, none.lookLeaves(), -2);
    }

    private static void judgeFirst() {
        Edge.of("34", "The first seen, as told, that isn't so by all rumours;");
        String text = Edge.slope("0 0", "a plain 12 1", "b plain 12 1") + ";rumour a 2 day 0;rumour a 1 day 20;rumour b 3 day 5";
        NorthVines first = Check.vines(text + ";doubted a day 19;believed a day 20;doubted b day 4");
        Check.answered("the first of three", first, first.judge(), 0);
        NorthVines last = Check.vines(text + ";doubted a day 20;believed a day 19;doubted b day 5;believed b day 4;believed b day 20");
        Check.answered("the last of five", last, last.judge(), 4);
        NorthVines told = Check.vines(text + ";doubted a day 20;believed b day 20;doubted a day 0");
        Check.answered("as told, not by DAYS", told, told.judge(), 1);
        NorthVines signs = Check.vines(text + ";doubted a day 20;sign a 1 costs 0 day 7");
        Check.answered("signs as NOW, not shown", signs, signs.judge(), -2);
        signs.show(0, true);
        for (int i = 0; i < 9; i++) {
            signs.day();
        }
        Check.answered("signs as NOW, shown", signs, signs.judge(), 0);
    }

    private static void judgeNone() {
        Edge.of("34", "-2. NONE: 1 (no SLOPE).");
        Edge.withoutSlope("judge");
        NorthVines nothing = Check.vines(A + ";rumour a 20 day 0");
        Check.answered("nothing seen", nothing, nothing.judge(), -2);
        NorthVines so = Check.vines(A + ";rumour a 3 day 20;doubted a day 20;believed a day 19;believed a day 0");
        Check.answered("all is so", so, so.judge(), -2);
    }

    // ---- telling

    private static void faithNought() {
        Edge.of("III", "TELL for n DAYS: the row by which, were its FAITH 0 NOW, most DOUBT behind n DAYS, the first such.");
        for (int tells : new int[] {9, 10}) {
            NorthVines x = Check.vines(Edge.slope("0 0", "a plain 30 1") + ";sign a " + tells + " costs 0 day 0");
            x.show(0, true);
            Check.answered("by 0 and " + tells, x, x.tellMost(1), tells < 10 ? 1 : 0);
            Check.due("nobody was told", x.row(0, 1), 30);
        }
        NorthVines rising = Check.vines(Edge.slope("0 0", "t plain 30 1", "a plain 30 1") + ";sees a t by 1");
        Check.answered("a is 9 behind 9", rising, rising.tell(9), 0);
        Check.answered("t stays 0, a falls", rising, rising.tellMost(21), 2);
        Check.answered("a is 10 behind 20 if t is told, and 20 if it is told itself", rising, rising.tellMost(20), 1);
    }

    private static void tellFirst() {
        Edge.of("35", "TELL for n DAYS (0 .. 40).");
        NorthVines alike = Check.vines(SEVEN);
        Check.answered("all alike", alike, alike.tell(0), 0);
        NorthVines doubting = Check.vines(Edge.slope("0 0", "a plain 0 1", "b plain 20 1", "c plain 20 1"));
        Check.answered("one that believes makes one more", doubting, doubting.tell(0), 1);
        Check.answered("tellMost(0)", doubting, doubting.tellMost(0), 2);
        NorthVines all = Check.vines(SEVEN.replace("faith 10", "faith 9"));
        Check.answered("all doubt anyway", all, all.tell(40), 0);
        Check.answered("all of seven", all, all.tellMost(40), 7);
        NorthVines last = Check.vines(Edge.slope("0 0", "a plain 10 1", "b plain 10 1", "c plain 10 1") + ";sees a c by 1;sees b c by 1");
        Check.answered("the last", last, last.tell(1), 2);
    }

    private static void tellDays() {
        Edge.of("35", "(0 .. 40)");
        // If f is told, it is 9 behind 9 and 10 from then on. If z is told, f is 10 behind 20 and 9 behind 21.
        NorthVines x = Check.vines(Edge.slope("0 0", "f plain 30 1", "z plain 10 1") + ";sees f z by 1");
        Check.answered("tell(0)", x, x.tell(0), 0);
        Check.answered("tell(9)", x, x.tell(9), 0);
        Check.answered("tell(10)", x, x.tell(10), 1);
        Check.answered("tell(40)", x, x.tell(40), 1);
        Check.answered("tellMost(20)", x, x.tellMost(20), 1);
        Check.answered("tellMost(21)", x, x.tellMost(21), 2);
    }

    private static void tellRefused() {
        Edge.of("35", "NONE: 1 (no SLOPE); 2.");
        Edge.withoutSlope("tell");
        NorthVines x = Check.vines(SEVEN);
        NorthVines none = new NorthVines();
        for (int n : Edge.NO_DAYS) {
            Check.refused("tell(" + n + ")", x, x.tell(n), 2);
            Check.refused("tell(" + n + ") without a slope", none, none.tell(n), 1);
        }
    }

    private static void tellMost() {
        Edge.of("36", "How many DOUBT by it.");
        NorthVines x = Check.vines(SEVEN + ";sees b a by 1;sees c b by 1;sees d c by 1;sees e d by 1;sees f e by 1;sees g f by 1");
        for (int n = 0; n <= 8; n++) {
            Check.answered("tellMost(" + n + ")", x, x.tellMost(n), Math.min(7, n + 1));
        }
        Check.answered("tellMost(40)", x, x.tellMost(40), 7);
        NorthVines one = Check.vines(A + ";sign a 10 costs 0 day 0");
        one.show(0, true);
        Check.answered("nobody", one, one.tellMost(1), 0);
        Check.answered("the first, though nobody", one, one.tell(1), 0);
    }

    private static void tellMostRefused() {
        Edge.of("36", "NONE: 1 (no SLOPE); 2.");
        Edge.withoutSlope("tellMost");
        NorthVines x = Check.vines(SEVEN);
        NorthVines none = new NorthVines();
        for (int n : Edge.NO_DAYS) {
            Check.refused("tellMost(" + n + ")", x, x.tellMost(n), 2);
            Check.refused("tellMost(" + n + ") without a slope", none, none.tellMost(n), 1);
        }
    }

    // ---- two parties

    private static String six(int faith) {
        StringBuilder text = new StringBuilder("slope bears 0 hail 0");
        for (char c = 'a'; c <= 'g'; c++) {
            text.append(";row ").append(c).append(" plain faith ").append(c == 'g' ? 10 : faith).append(" grapes 1");
        }
        for (char c = 'a'; c <= 'f'; c++) {
            text.append(";sign ").append(c).append(" 1 costs 9 day 0");
        }
        return text.toString();
    }

    private static void notShown() {
        Edge.of("III", "each takes a sign that isn't SHOWN NOW nor taken, or passes");
        NorthVines x = Check.vines(six(9));
        play("none shown", x, 1, 1 + 3, 0);
        x.show(0, true);
        play("one shown", x, 1, 1 + 1 + 3, 1);
        x.show(2, true);
        x.show(1, true);
        play("three shown", x, 1, 1 + 3 + 2, 3);
        x.show(3, true);
        x.show(4, true);
        play("five shown", x, 1, 7, 5);
        x.show(5, true);
        play("all shown", x, 1, 7, -2);
        // One that is shown can't be taken to win time.
        NorthVines either = Check.vines(Edge.slope("0 0", "a plain 9 1") + ";sign a 1 costs 0 day 9;sign a 1 costs 0 day 0;sign a 1 costs 0 day 0");
        play("the idle one is as good", either, 1, 1, 0);
        either.show(0, true);
        play("the idle one is shown", either, 1, 1, 1);
    }

    private static void oneShowsFirst() {
        Edge.of("III", "TWO parties by turns, the one who shows first");
        NorthVines x = Check.vines(six(9));
        x.show(5, true);
        // Of five that are left the one gets three.
        play("the one begins", x, 1, 1 + 1 + 3, 0);
        NorthVines one = Check.vines(Edge.slope("0 0", "a plain 9 1", "b plain 9 1") + ";sign b 1 costs 0 day 0");
        play("the only one is the one's", one, 1, 1, 0);
    }

    private static void thoseOfTheOne() {
        Edge.of("III", "Then those of the one are SHOWN, too, and n DAYS go by: the one wants as many rows to believe as may be,"
                + " the other one as few. VALUE: how many do, both playing best.");
        // Together with the one that is SHOWN either is enough for a; those of the other one aren't SHOWN.
        NorthVines x = Check.vines(Edge.slope("0 0", "a plain 8 1", "b plain 9 1") + ";sign a 1 costs 0 day 0;sign a 1 costs 0 day 0;sign b 1 costs 0 day 0");
        play("one of both rows", x, 1, 1, 0);
        x.show(0, true);
        play("with one SHOWN NOW", x, 1, 1, 1);
        x.show(2, true);
        play("with two SHOWN NOW", x, 1, 2, 1);
        Check.due("none is SHOWN by it", x.spent() + x.sign(1, 4), 0);
        Check.due("no DAY went by", x.size(8), 0);
        // b sees a: as a believes, so does b, two DAYS later.
        NorthVines y = Check.vines(Edge.slope("0 0", "a plain 9 1", "b plain 9 1", "c plain 9 1") + ";sees b a by 1"
                + ";sign c 1 costs 0 day 0;sign a 20 costs 0 day 0");
        play("one is as good as the other", y, 1, 1, 0);
        play("a is worth two", y, 3, 2, 1);
    }

    private static void bothPassed() {
        Edge.of("III", "till both have passed one after the other");
        // If the one passes, the other one does, too, and nothing is shown.
        NorthVines x = Check.vines(Edge.slope("0 0", "a plain 9 1") + ";sign a 1 costs 0 day 0".repeat(2));
        play("either is enough", x, 1, 1, 0);
        NorthVines both = Check.vines(Edge.slope("0 0", "a plain 8 1") + ";sign a 1 costs 0 day 0".repeat(2));
        play("both are needed", both, 1, 0, -2);
        NorthVines three = Check.vines(Edge.slope("0 0", "a plain 8 1") + ";sign a 1 costs 0 day 0".repeat(3));
        play("two of three are needed", three, 1, 1, 0);
        NorthVines four = Check.vines(Edge.slope("0 0", "a plain 7 1") + ";sign a 1 costs 0 day 0".repeat(4));
        play("three of four are needed", four, 1, 0, -2);
    }

    private static void noSignLeft() {
        Edge.of("III", "or no sign is left.");
        play("there is none", Check.vines(A), 5, 1, -2);
        play("there is none, nobody believes", Check.vines(Edge.slope("0 0", "a plain 9 1")), 5, 0, -2);
        NorthVines one = Check.vines(Edge.slope("0 0", "a plain 9 1") + ";sign a 1 costs 0 day 0");
        play("one, and the one takes it", one, 1, 1, 0);
    }

    private static void valueDays() {
        Edge.of("37", "VALUE for n DAYS (0 .. 40).");
        NorthVines x = Check.vines(Edge.slope("0 0", "a plain 9 1") + ";sign a 1 costs 0 day 20");
        play("0", x, 0, 0, -2);
        play("20", x, 20, 0, -2);
        play("21", x, 21, 1, 0);
        play("40", x, 40, 1, 0);
        play("all of seven", Check.vines(six(10)), 40, 7, -2);
        play("all of seven NOW", Check.vines(six(10)), 0, 7, -2);
        NorthVines past = Check.vines(six(9));
        past.day();
        play("all of them too late", past, 40, 1, -2);
    }

    private static void valueRefused() {
        Edge.of("37", "NONE: 1 (no SLOPE); 2.");
        Edge.withoutSlope("value");
        NorthVines x = Check.vines(SEVEN);
        NorthVines none = new NorthVines();
        for (int n : Edge.NO_DAYS) {
            Check.refused("value(" + n + ")", x, x.value(n), 2);
            Check.refused("value(" + n + ") without a slope", none, none.value(n), 1);
        }
    }

    private static void takeFirst() {
        Edge.of("38", "The sign the one takes first by it, playing best, the first such;");
        String idle = ";sign a 1 costs 0 day 9".repeat(5);
        play("the last alone does", Check.vines(Edge.slope("0 0", "a plain 9 1") + idle + ";sign a 1 costs 0 day 0"), 1, 1, 5);
        play("the first alone does", Check.vines(Edge.slope("0 0", "a plain 9 1") + ";sign a 1 costs 0 day 0" + idle), 1, 1, 0);
        // To begin with the idle one loses, as the other one takes the second of the three that tell.
        NorthVines alone = Check.vines(Edge.slope("0 0", "a plain 9 1") + ";sign a 1 costs 0 day 0");
        Check.answered("take(1), and no value asked for", alone, alone.take(1), 0);
        // If the one takes an idle one, the other one takes what tells; neither does that.
        play("the idle one behind", Check.vines(Edge.slope("0 0", "a plain 9 1", "b plain 9 1")
                + ";sign a 1 costs 0 day 0;sign b 1 costs 0 day 0;sign a 1 costs 0 day 9"), 1, 1, 0);
        play("the idle one ahead", Check.vines(Edge.slope("0 0", "a plain 9 1", "b plain 9 1", "c plain 9 1")
                + ";sign a 1 costs 0 day 9;sign a 1 costs 0 day 0;sign b 1 costs 0 day 0;sign c 1 costs 0 day 0"), 1, 2, 1);
        play("not the idle one", Check.vines(Edge.slope("0 0", "a plain 8 1") + ";sign a 1 costs 0 day 9" + ";sign a 1 costs 0 day 0".repeat(3)), 1, 1, 1);
    }

    private static void takePassing() {
        Edge.of("38", "-2 passing is as good as any, or there is none.");
        play("there is none", Check.vines(A), 1, 1, -2);
        play("idle ones", Check.vines(Edge.slope("0 0", "a plain 9 1") + ";sign a 1 costs 0 day 9".repeat(6)), 1, 0, -2);
        play("deaf", Check.vines(Edge.slope("0 0", "a deaf 9 1") + ";sign a 20 costs 0 day 0"), 1, 0, -2);
        NorthVines shown = Check.vines(Edge.slope("0 0", "a plain 9 1") + ";sign a 1 costs 0 day 0");
        shown.show(0, true);
        play("shown already", shown, 1, 1, -2);
    }

    private static void takeRefused() {
        Edge.of("38", "NONE: 1 (no SLOPE); 2.");
        Edge.withoutSlope("take");
        NorthVines x = Check.vines(SEVEN);
        NorthVines none = new NorthVines();
        for (int n : Edge.NO_DAYS) {
            Check.refused("take(" + n + ")", x, x.take(n), 2);
            Check.refused("take(" + n + ") without a slope", none, none.take(n), 1);
        }
    }
}
