/** Promises 1 to 5: a new object, the tape, the text of a slope and its faults. */
public final class TextTest {
    private static final String HEAD = "slope bears 1 hail 0";
    private static final String A = HEAD + ";row a plain faith 1 grapes 1";
    private static final String AB = A + ";row b old faith 1 grapes 1";
    private static final String SEES = AB + ";sees a b by 1";

    public static void main(String[] args) {
        newObject();
        tape();
        numbers();
        slopeStays();
        oneBehindAnother();
        form();
        tokens();
        names();
        again();
        bounds();
        many();
        lacks();
        blind();
        leastNumber();
        Check.end("TextTest");
    }

    private static void newObject() {
        NorthVines x = new NorthVines();
        for (int what = 0; what <= 11; what++) {
            Check.due("new: size(" + what + ")", x.size(what), 0);
        }
        Check.due("new: trouble()", x.trouble(), 0);
        Check.due("new: fault()", x.fault(), 0);
        Check.due("new: where()", x.where(), NorthVines.NONE);
        Check.refused("new: doubters()", x, x.doubters(), 1);
        Check.dueThrow("new: led(0)", x, 0);
    }

    private static void tape() {
        NorthVines x = new NorthVines();
        for (int i = 1; i <= 45; i++) {
            Check.due("feed " + i, x.feed(0x20202020, 0x20202020, 0x20202020, 0x20202020, 0x20202020), 20 * i);
        }
        Check.due("size(11)", x.size(11), 900);
        Check.due("feed 46", x.feed(0, 0, 0, 0, 0), -1);
        Check.due("size(11) behind a full tape", x.size(11), 900);
        Check.due("a full tape is no trouble", x.trouble(), 0);
        Check.due("slope(901)", x.slope(901), -1);
        Check.due("trouble()", x.trouble(), 2);
        Check.due("feed is refused without a number", x.feed(0, 0, 0, 0, 0), -1);
        Check.due("trouble() of slope(901) still", x.trouble(), 2);
        Check.due("slope(900) of blanks", x.slope(900), -1);
        Check.due("fault()", x.fault(), 1);
        Check.due("where()", x.where(), 900);
        Check.due("size(11) is empty then", x.size(11), 0);

        NorthVines y = new NorthVines();
        Check.due("high bytes", y.feed(0xFF000000, -1, Integer.MIN_VALUE, 0, 0), 20);
        Check.due("slope(1)", y.slope(1), -1);
        Check.due("fault()", y.fault(), 1);
        Check.due("where()", y.where(), 0);
    }

    private static void numbers() {
        NorthVines x = new NorthVines();
        Check.feed(x, A);
        int fed = x.size(11);
        Check.refused("slope(-1)", x, x.slope(-1), 2);
        Check.refused("slope(more than fed)", x, x.slope(fed + 1), 2);
        Check.refused("slope(least int)", x, x.slope(Integer.MIN_VALUE), 2);
        Check.refused("slope(most int)", x, x.slope(Integer.MAX_VALUE), 2);
        Check.due("the tape stays", x.size(11), fed);
        Check.due("where() of 2", x.where(), -1);
        Check.answered("slope(fed), blanks behind", x, x.slope(fed), 1);
        Check.due("the tape is empty", x.size(11), 0);
        Check.refused("slope(0) without a byte", x, x.slope(0), 4);
        Check.due("fault() of no text", x.fault(), 1);
        Check.due("where() of no text", x.where(), 0);
        Check.feed(x, A + "    garbage");
        Check.answered("slope of a part", x, x.slope(A.length()), 1);
        Check.due("the rest is gone too", x.size(11), 0);
        String believing = HEAD + ";row a plain faith 20 grapes 5";
        Check.feed(x, believing + "9");
        Check.answered("a whole that goes on behind the part", x, x.slope(believing.length()), 1);
        Check.due("its grapes", x.row(0, 3), 5);
        Check.feed(x, A + ";doubtedly");
        Check.refused("a word that goes on behind the part", x, x.slope(A.length() + 8), 4);
        Check.due("where()", x.where(), A.length() + 8);
    }

    private static void slopeStays() {
        NorthVines x = Check.vines(A + ";sign a 9 costs 4 day 0");
        x.show(0, true);
        x.day();
        x.image();
        Check.due("bad text", Check.read(x, "slope bears 1 hail 0;"), -1);
        Check.due("trouble()", x.trouble(), 4);
        Check.due("where()", x.where(), 21);
        Check.due("where() again", x.where(), 21);
        x.feed(0, 0, 0, 0, 0);
        Check.due("where() behind feed", x.where(), 21);
        Check.due("rows stay", x.size(2), 1);
        Check.due("signs stay", x.size(5), 1);
        Check.due("days stay", x.size(8), 1);
        Check.due("acts stay", x.size(9), 2);
        Check.due("images stay", x.size(10), 1);
        Check.due("shown stays", x.sign(0, 4), 1);
        Check.due("where() behind another call", x.where(), -1);
        Check.due("fault() behind another call", x.fault(), 1);
        Check.refused("slope(99)", x, x.slope(99), 2);
        Check.due("fault() behind one refused by 2", x.fault(), 1);
        Check.due("tape", x.size(11), 20);
        x.slope(0);

        Check.answered("a new slope", x, Check.read(x, AB), 2);
        Check.due("fault() without one", x.fault(), 0);
        Check.due("no day", x.size(8), 0);
        Check.due("no sign", x.size(5), 0);
        Check.due("nothing to undo", x.size(9), 0);
        Check.due("no images", x.size(10), 0);
        Check.due("undo()", x.undo(), false);
        Check.due("back(0)", x.back(0), false);
        Check.due("faith as told", x.row(0, 1), 1);
        Check.due("spent()", x.spent(), 0);
    }

    private static void oneBehindAnother() {
        String full = SEES + ";sees b a by 2;wall a b costs 1;sign a 1 costs 1 day 1;rumour a 1 day 1;doubted a day 1"
                + ";believed b day 1";
        NorthVines x = Check.vines(full);
        for (int i = 0; i < 12; i++) {
            Check.due("the same once more", Check.read(x, full), 2);
            Check.due("one that is no slope", Check.read(x, full + ";row a"), -1);
        }
        int[] sizes = {1, 0, 2, 2, 1, 1, 1, 2};
        for (int what = 0; what < sizes.length; what++) {
            Check.due("of the same: size(" + what + ")", x.size(what), sizes[what]);
        }
        Check.due("one with less", Check.read(x, "slope bears 9 hail 8;row c new faith 7 grapes 6"), 1);
        int[] less = {9, 8, 1, 0, 0, 0, 0, 0};
        for (int what = 0; what < less.length; what++) {
            Check.due("of less: size(" + what + ")", x.size(what), less[what]);
        }
        Check.due("KIND", x.row(0, 0), 2);
        Check.due("FAITH", x.row(0, 1), 7);
        Check.due("GRAPES", x.row(0, 3), 6);
        Check.due("one with signs and walls", Check.read(x, full), 2);
        x.show(0, true);
        x.put(0, true);
        x.image();
        x.image();
        Check.due("the same behind acts", Check.read(x, full), 2);
        Check.due("no sign is shown", x.sign(0, 4), 0);
        Check.due("no wall is up", x.wall(0, 3), 0);
        x.show(0, true);
        Check.due("its first image", x.image(), 0);
        x.show(0, false);
        Check.due("back to it", x.back(0), true);
        Check.due("shown by it", x.sign(0, 4), 1);
        Check.due("no wall by it", x.wall(0, 3), 0);
        Check.due("a name of the former one", Check.read(x, HEAD + ";row d new faith 7 grapes 6;sign a"), -1);
        Check.due("fault()", x.fault(), 2);
    }

    private static void fault(String text, int number, int place) {
        NorthVines x = new NorthVines();
        Check.due("slope of " + text, Check.read(x, text), number == 0 ? x.size(2) : -1);
        Check.due("trouble() of " + text, x.trouble(), number == 0 ? 0 : 4);
        Check.due("fault() of " + text, x.fault(), number);
        Check.due("where() of " + text, x.where(), number == 0 ? -1 : place);
    }

    /** The last token of the text is the fault. */
    private static void atLast(String text, int number) {
        int place = text.length();
        while (place > 0 && text.charAt(place - 1) != ' ' && text.charAt(place - 1) != ';') {
            place--;
        }
        fault(text, number, place);
        fault(text + "   ", number, place);
        fault(text + " zzz 9;", number, place);
    }

    private static void atEnd(String text, int number) {
        fault(text, number, text.length());
        fault(text + "  ", number, text.length() + 2);
    }

    private static void form() {
        atEnd("", 1);
        atLast("vine", 1);
        atLast("12", 1);
        fault(" ; ", 1, 1);
        atEnd("slope", 1);
        atLast("slope hail", 1);
        atLast("slope 1", 1);
        atEnd("slope bears", 1);
        atLast("slope bears bears", 1);
        atEnd("slope bears 1", 1);
        atLast("slope bears 1 bears", 1);
        atLast("slope bears 1 hail hail", 1);
        atEnd(HEAD + ";", 1);
        atLast(HEAD + " row", 1);
        atLast(HEAD + " 5", 1);
        fault(HEAD + ";;row", 1, 21);
        atLast(HEAD + ";a", 1);
        atEnd(HEAD + ";row", 1);
        atLast(HEAD + ";row 5", 1);
        atLast(HEAD + ";row a faith", 1);
        atLast(HEAD + ";row a plain old", 1);
        atLast(HEAD + ";row a plain faith x", 1);
        atLast(HEAD + ";row a plain faith 3 faith", 1);
        atEnd(HEAD + ";row a plain faith 3 grapes", 1);
        atEnd(A + ";", 1);
        atLast(A + " a", 1);
        atEnd(A + ";sees a", 1);
        atLast(AB + ";sees 4", 1);
        atLast(AB + ";sees a 4", 1);
        atLast(AB + ";sees a b to", 1);
        atLast(AB + ";sees a b by x", 1);
        atLast(SEES + ";wall 1", 1);
        atLast(SEES + ";wall a 1", 1);
        atLast(SEES + ";wall a b by", 1);
        atLast(SEES + ";wall a b costs a", 1);
        atLast(A + ";sign 4", 1);
        atLast(A + ";sign a costs", 1);
        atLast(A + ";sign a 4 day", 1);
        atLast(A + ";sign a 4 costs day", 1);
        atLast(A + ";sign a 4 costs 4 costs", 1);
        atEnd(A + ";sign a 4 costs 4 day", 1);
        atLast(A + ";rumour day", 2);
        atLast(A + ";rumour a day", 1);
        atLast(A + ";rumour a 4 costs", 1);
        atLast(A + ";rumour a 4 day a", 1);
        atLast(A + ";doubted a 4", 1);
        atLast(A + ";believed a day a", 1);
        for (String word : "slope row sees wall sign rumour doubted believed".split(" ")) {
            atLast(HEAD + ";row " + word, 1);
            atLast(AB + ";sees " + word, 1);
            atLast(AB + ";sees a " + word, 1);
            atLast(AB + ";doubted " + word, 1);
        }
    }

    private static void tokens() {
        fault("slope bears1hail0;row a plain faith10grapes5", 0, 0);
        fault("   slope   bears 001 hail 000 ; row a plain faith 1 grapes 1   ", 0, 0);
        fault(HEAD + ";row abcdefgh plain faith 1 grapes 1", 0, 0);
        fault(HEAD + ";row abcdefghi plain faith 1 grapes 1", 1, 25);
        fault("slope bears 0001", 1, 12);
        fault("slope bears 1 hail 1000", 1, 19);
        fault("Slope bears 1", 1, 0);
        fault("slope\tbears 1", 1, 5);
        fault("slope bEars 1", 1, 6);
        fault("slope b\u00e9ars 1", 1, 6);
        fault(HEAD + "," + A, 1, 20);
        fault(HEAD + ";row a1 plain", 1, 26);
        fault("slopebears 1", 1, 0);
        fault("slopes bears 1", 1, 0);
        fault("slop", 1, 0);
        String all = SEES + ";wall a b costs 1;sign a 1 costs 1 day 1;rumour a 1 day 1;doubted a day 1;believed b day 1";
        fault(all, 0, 0);
        for (int i = 0; i < all.length(); i++) {
            boolean begins = i == 0 || all.charAt(i - 1) == ' ' || all.charAt(i - 1) == ';';
            boolean isLong = i + 1 < all.length() && Character.isLetter(all.charAt(i)) && Character.isLetter(all.charAt(i + 1));
            if (begins && isLong) {
                fault(all.substring(0, i) + 'z' + all.substring(i + 1), 1, i);
            }
        }
        fault(HEAD + ";row plain plain faith 30 grapes 99;row faith old faith 0 grapes 0;row by deaf faith 1 grapes 1"
                + ";sees plain by by 9;wall plain by costs 99;sign by 1 costs 0 day 20;rumour faith 20 day 0"
                + ";doubted by day 20;believed by day 19;doubted faith day 20", 0, 0);
    }

    private static void names() {
        atLast(A + ";sees b", 2);
        atLast(A + ";sees a b", 2);
        atLast(SEES + ";wall c", 2);
        atLast(SEES + ";wall a c", 2);
        atLast(A + ";sign b", 2);
        atLast(A + ";rumour b", 2);
        atLast(A + ";doubted aa", 2);
        atLast(A + ";believed plain", 2);
        atLast(HEAD + ";row ab old faith 1 grapes 1;sign a", 2);
        fault(HEAD + ";row ab old faith 1 grapes 1;row a old faith 1 grapes 1;row abc new faith 1 grapes 1"
                + ";sees ab abc by 1;sees a ab by 1", 0, 0);
    }

    private static void again() {
        atLast(HEAD + ";slope", 3);
        atLast(A + ";slope", 3);
        atLast(A + ";row a", 3);
        atLast(AB + ";row b", 3);
        atLast(AB + ";sees a a", 3);
        atLast(SEES + ";sees a b", 3);
        fault(SEES + ";sees b a by 9", 0, 0);
        atLast(SEES + ";wall a a", 3);
        atLast(SEES + ";wall b b", 3);
        atLast(SEES + ";wall a b costs 3;wall a b", 3);
        fault(SEES + ";sees b a by 3;wall a b costs 3;wall b a costs 3", 0, 0);
        atLast(AB + ";doubted a day 3;doubted a day 3", 3);
        atLast(AB + ";doubted a day 3;believed a day 3", 3);
        atLast(AB + ";believed a day 3;doubted a day 03", 3);
        fault(AB + ";doubted a day 3;doubted b day 3;believed a day 4", 0, 0);
        fault(AB + ";sign a 1 costs 1 day 1;sign a 1 costs 1 day 1;rumour a 1 day 1;rumour a 1 day 1", 0, 0);
    }

    private static void bounds() {
        fault("slope bears 99 hail 100;row a new faith 30 grapes 99", 0, 0);
        fault("slope bears 0 hail 0;row a new faith 0 grapes 0", 0, 0);
        atLast("slope bears 100", 4);
        atLast("slope bears 1 hail 101", 4);
        atLast(HEAD + ";row a new faith 31", 4);
        atLast(HEAD + ";row a new faith 3 grapes 100", 4);
        atLast(AB + ";sees a b by 0", 4);
        atLast(AB + ";sees a b by 10", 4);
        fault(AB + ";sees a b by 9", 0, 0);
        atLast(SEES + ";wall a b costs 100", 4);
        fault(SEES + ";wall a b costs 99", 0, 0);
        atLast(A + ";sign a 0", 4);
        atLast(A + ";sign a 21", 4);
        atLast(A + ";sign a 20 costs 100", 4);
        atLast(A + ";sign a 20 costs 99 day 21", 4);
        fault(A + ";sign a 20 costs 99 day 20;sign a 1 costs 0 day 0", 0, 0);
        atLast(A + ";rumour a 0", 4);
        atLast(A + ";rumour a 21", 4);
        atLast(A + ";rumour a 1 day 21", 4);
        fault(A + ";rumour a 20 day 20;rumour a 1 day 0", 0, 0);
        atLast(A + ";doubted a day 21", 4);
        atLast(A + ";believed a day 999", 4);
    }

    private static String times(String line, int n) {
        StringBuilder text = new StringBuilder();
        for (int i = 0; i < n; i++) {
            text.append(line);
        }
        return text.toString();
    }

    private static void many() {
        StringBuilder rows = new StringBuilder(HEAD);
        for (char c = 'a'; c <= 'g'; c++) {
            rows.append(";row ").append(c).append(" old faith 1 grapes 1");
        }
        fault(rows.toString(), 0, 0);
        atLast(rows + ";row", 5);
        String sees = rows + ";sees a b by 1;sees a c by 1;sees a d by 1;sees a e by 1;sees a f by 1;sees b a by 1"
                + ";sees b c by 1;sees b d by 1;sees b e by 1;sees b f by 1";
        fault(sees, 0, 0);
        atLast(sees + ";sees", 5);
        String walls = sees + ";wall a b costs 1;wall a c costs 1;wall a d costs 1;wall a e costs 1;wall a f costs 1";
        fault(walls, 0, 0);
        atLast(walls + ";wall", 5);
        String signs = A + times(";sign a 1 costs 1 day 1", 6);
        fault(signs, 0, 0);
        atLast(signs + ";sign", 5);
        String rumours = A + times(";rumour a 1 day 1", 5);
        fault(rumours, 0, 0);
        atLast(rumours + ";rumour", 5);
        String seen = A + ";doubted a day 1;believed a day 2;doubted a day 3;believed a day 4;doubted a day 5";
        fault(seen, 0, 0);
        atLast(seen + ";doubted", 5);
        atLast(seen + ";believed", 5);
    }

    private static void lacks() {
        for (String word : "row sees wall sign rumour doubted believed".split(" ")) {
            atLast(word, 6);
            fault("  " + word + " a", 6, 2);
            fault(word + ";" + HEAD, 6, 0);
        }
        atEnd(HEAD, 6);
    }

    private static void blind() {
        atLast(AB + ";wall a b", 7);
        atLast(SEES + ";wall b a", 7);
        atLast(SEES + ";sees b a by 1;wall b a costs 1;row c old faith 1 grapes 1;wall a c", 7);
    }

    private static void leastNumber() {
        // No row at the end, and no line: form comes first.
        atEnd(HEAD + ";", 1);
        // A wall to itself is not seen either.
        atLast(AB + ";wall a a", 3);
        // The fault on the left is met first.
        fault(HEAD + ";row a plain faith 99 grapes 1;row a odd faith 1;!", 4, 39);
        fault(AB + ";sees a b by 0;sees a c by 1", 4, AB.length() + 13);
    }
}
