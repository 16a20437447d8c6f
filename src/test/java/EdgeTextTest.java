import java.util.Map;
import java.util.function.ToLongFunction;

/** Edges of Term I and of promises 1 to 5: the tape, the text of a slope, its faults. A test for each sentence. */
public final class EdgeTextTest {
    private static final String HEAD = "slope bears 1 hail 0";
    private static final String A = HEAD + ";row a plain faith 10 grapes 1";
    private static final String AB = A + ";row b plain faith 10 grapes 1";
    private static final String ABC = AB + ";row c plain faith 10 grapes 1";
    private static final String SEES = ABC + ";sees a b by 1";
    private static final String[] LINE_WORDS = "slope row sees wall sign rumour doubted believed".split(" ");

    public static void main(String[] args) {
        tape();
        blanks();
        words();
        wholes();
        marks();
        lines();
        slopeBounds();
        slopeAhead();
        kinds();
        rowBounds();
        rowsUpTo();
        seesUnlike();
        seesOnce();
        seesBounds();
        wallSeen();
        wallOnce();
        wallBounds();
        signBounds();
        rumourBounds();
        seenBounds();
        seenOnce();
        names();
        namesOnce();
        faults();
        promises();
        Edge.covered(1, 5);
        Check.end("EdgeTextTest");
    }

    private static void faults() {
        fromTheLeft();
        leastNumber();
        formByte();
        formToken();
        formEnd();
        untold();
        toldAgain();
        secondRow();
        dayAgain();
        secondSlope();
        outOfBounds();
        many();
        lacksSlope();
        lacksRow();
        blind();
    }

    private static void promises() {
        newObject();
        highestFirst();
        tapeFull();
        firstBytes();
        emptyThen();
        fromNowOn();
        howManyRows();
        slopeNumber();
        slopeFault();
        latestFault();
        noFault();
        whereByFour();
        whereElse();
    }

    // ---- what texts are asked for

    private static void fine(String text) {
        NorthVines x = new NorthVines();
        int rows = text.split("; *row ", -1).length - 1;
        Check.answered("slope of " + text, x, Check.read(x, text), rows);
        Check.due("fault() of " + text, x.fault(), 0);
        Check.due("where() of " + text, x.where(), -1);
    }

    /** A fault where the text has a ^, which itself is left out. */
    private static void fault(int number, String marked) {
        int place = marked.indexOf('^');
        faultAt(number, place, marked.substring(0, place) + marked.substring(place + 1));
    }

    private static void faultAt(int number, int place, String text) {
        NorthVines x = new NorthVines();
        Check.refused("slope of " + text, x, Check.read(x, text), 4);
        Check.due("fault() of " + text, x.fault(), number);
        Check.due("where() of " + text, x.where(), place);
        Check.due("rows by " + text, x.size(2), 0);
    }

    /** All wholes of up to three digits behind a text: right ones from least to most, the others are faults 4 at them. */
    private static void bounds(String ahead, String behind, int least, int most) {
        for (int whole : new int[] {least, most}) {
            fine(ahead + whole + behind);
        }
        for (int whole : new int[] {least - 1, most + 1, 999}) {
            if (whole >= 0) {
                fault(4, ahead + "^" + whole + behind);
                fault(4, ahead + "^" + whole);
            }
        }
    }

    // ---- Term I: tokens and lines

    private static void tape() {
        Edge.of("I", "THE TAPE has 900 bytes");
        String ahead = HEAD + ";row a plain faith 10 grapes";
        String long899 = ahead + " ".repeat(899 - ahead.length());
        fine(long899 + "7");
        NorthVines x = Check.vines(long899 + "7");
        Check.due("the last byte counts", x.row(0, 3), 7);
        faultAt(1, 899, long899 + "x");
        faultAt(1, 900, long899 + " ");
        NorthVines most = Check.vines(Edge.MOST + " ".repeat(900 - Edge.MOST.length()));
        Check.due("as much as there is room for, and blanks", most.size(2), 7);
    }

    private static void blanks() {
        Edge.of("I", "blanks, 32, part TOKENS and mean nothing else");
        fine("slope bears1hail0;row a plain faith10grapes1");
        fine("slope bears1hail0;row a plain faith10grapes1;row b old faith10grapes1;sees a b by1;wall a b costs1"
                + ";sign a1costs1day1;rumour b1day1;doubted a day1;believed b day1");
        fault(2, "slope bears1hail0;row a plain faith10grapes1;sign ^b1costs1day1");
        fine("   slope   bears   1   hail   0   ;   row   a   plain   faith   10   grapes   1   ");
        for (int sign = 0; sign < 256; sign++) {
            char c = (char) sign;
            if (c == ' ') {
                fine(c + A);
                fine(A + c);
            } else {
                // Ahead of the first word even a letter makes another one of it.
                faultAt(1, 0, c + A);
            }
            if (c == ';') {
                faultAt(1, A.length() + 1, A + c);
            } else if (c >= '0' && c <= '9') {
                fine(A + c);
            } else if (c != ' ') {
                faultAt(1, A.length(), A + c);
            }
            faultAt(1, 0, "slo" + c + "pe bears 1 hail 0");
        }
    }

    private static void words() {
        Edge.of("I", "WORDS of 1 to 8 small letters that stand together");
        for (int length = 1; length <= 8; length++) {
            fine(HEAD + ";row " + "z".repeat(length) + " plain faith 10 grapes 1;sign " + "z".repeat(length) + " 1 costs 1 day 1");
        }
        fault(1, HEAD + ";row ^" + "z".repeat(9) + " plain faith 10 grapes 1");
        fault(1, HEAD + ";row ^" + "z".repeat(16) + " plain faith 10 grapes 1");
        fine(HEAD + ";row zzzzzzzz plain faith 10 grapes 1;row zzzzzzz plain faith 10 grapes 1;sees zzzzzzz zzzzzzzz by 1");
        fault(2, HEAD + ";row zzzzzzzz plain faith 10 grapes 1;sign ^zzzzzzz 1 costs 1 day 1");
        fault(2, HEAD + ";row zzzzzzz plain faith 10 grapes 1;sign ^zzzzzzzz 1 costs 1 day 1");
        fault(1, HEAD + ";row ^`a plain faith 10 grapes 1");
        fault(1, HEAD + ";row a^{ plain faith 10 grapes 1");
        fault(1, HEAD + ";row ^A plain faith 10 grapes 1");
        fault(1, HEAD + ";row ^Z plain faith 10 grapes 1");
        fine(HEAD + ";row az plain faith 10 grapes 1");
    }

    private static void wholes() {
        Edge.of("I", "WHOLES of 1 to 3 digits that do");
        for (String whole : "0 9 00 09 000 009 099".split(" ")) {
            fine("slope bears " + whole + " hail 0;row a plain faith 10 grapes 1");
        }
        NorthVines x = Check.vines("slope bears 012 hail 007;row a plain faith 010 grapes 000");
        Check.due("012", x.size(0), 12);
        Check.due("007", x.size(1), 7);
        Check.due("010", x.row(0, 1), 10);
        fault(1, "slope bears ^0000 hail 0;row a plain faith 10 grapes 1");
        fault(1, "slope bears ^0001 hail 0;row a plain faith 10 grapes 1");
        fault(1, "slope bears ^" + "9".repeat(30));
        fault(1, "slope bears ^/ hail 0");
        fault(1, "slope bears ^: hail 0");
        fault(1, "slope bears ^-1 hail 0");
        fault(1, "slope bears 1^.5 hail 0");
    }

    private static void marks() {
        Edge.of("I", "single ones of ;");
        fault(1, HEAD + ";^;row a plain faith 10 grapes 1");
        fault(1, HEAD + "; ^;row a plain faith 10 grapes 1");
        fault(1, HEAD + "^:row a plain faith 10 grapes 1");
    }

    private static void lines() {
        Edge.of("I", "LINE {; LINE}");
        fine(A);
        fault(1, "^;" + A);
        fault(1, A + ";^");
        fault(1, A + " ;  ^");
        fault(1, HEAD + " ^row a plain faith 10 grapes 1");
        fault(1, A + " ^row b plain faith 10 grapes 1");
        fault(1, A + " ^1");
        fault(1, A + ";^a");
        fault(1, A + ";^1");
    }

    private static void slopeBounds() {
        Edge.of("I", "slope bears WHOLE hail WHOLE (0 .. 99; 0 .. 100 in a hundred)");
        bounds("slope bears ", " hail 0;row a plain faith 10 grapes 1", 0, 99);
        bounds("slope bears 0 hail ", ";row a plain faith 10 grapes 1", 0, 100);
    }

    private static void slopeAhead() {
        Edge.of("I", "ahead of all others");
        fine(A);
        faultAt(6, 0, "row a plain faith 10 grapes 1;" + HEAD);
        faultAt(6, 0, "row a plain faith 10 grapes 1");
    }

    private static void kinds() {
        Edge.of("I", "KIND: plain, old, new, or deaf");
        String[] kinds = {"plain", "old", "new", "deaf"};
        for (int kind = 0; kind < kinds.length; kind++) {
            NorthVines x = Check.vines(HEAD + ";row a " + kinds[kind] + " faith 10 grapes 1");
            Check.due(kinds[kind], x.row(0, 0), kind);
        }
        for (String none : "faith olds ol plains dea row a".split(" ")) {
            fault(1, HEAD + ";row a ^" + none + " faith 10 grapes 1");
        }
        fault(1, HEAD + ";row a ^1 faith 10 grapes 1");
    }

    private static void rowBounds() {
        Edge.of("I", "row NAME KIND faith WHOLE grapes WHOLE (KIND: plain, old, new, or deaf; 0 .. 30; 0 .. 99; up to 7)");
        bounds(HEAD + ";row a plain faith ", " grapes 0", 0, 30);
        bounds(HEAD + ";row a plain faith 0 grapes ", "", 0, 99);
    }

    private static String manyRows(int n) {
        StringBuilder text = new StringBuilder(HEAD);
        for (int r = 0; r < n; r++) {
            text.append(";row ").append((char) ('a' + r)).append(" plain faith 10 grapes 1");
        }
        return text.toString();
    }

    private static void rowsUpTo() {
        Edge.of("I", "up to 7");
        for (int n = 1; n <= 7; n++) {
            NorthVines x = Check.vines(manyRows(n));
            Check.due("rows of " + n, x.size(2), n);
        }
        faultAt(5, manyRows(7).length() + 1, manyRows(8));
    }

    private static void seesUnlike() {
        Edge.of("I", "sees ROW ROW by WHOLE (unlike; the first one sees the second one;");
        fault(3, AB + ";sees a ^a by 1");
        fault(3, AB + ";sees b ^b by 1");
        NorthVines x = Check.vines(SEES);
        Check.due("the first one sees the second one", x.row(0, 4), 2);
        Check.due("the second one doesn't see the first one", x.row(1, 4), 0);
    }

    private static void seesOnce() {
        Edge.of("I", "each two in that order once; 1 .. 9; up to 10)");
        fault(3, SEES + ";sees a ^b by 1");
        fault(3, SEES + ";sees a c by 1;sees b a by 1;sees a ^b by 2");
        fine(SEES + ";sees b a by 1;sees a c by 1;sees c b by 1");
    }

    private static void seesBounds() {
        Edge.of("I", "1 .. 9; up to 10)");
        bounds(AB + ";sees a b by ", "", 1, 9);
        StringBuilder ten = new StringBuilder(manyRows(7));
        for (String two : "ab ba ac ca ad da ae ea af fa".split(" ")) {
            ten.append(";sees ").append(two.charAt(0)).append(' ').append(two.charAt(1)).append(" by 1");
        }
        Check.due("ten sights", Check.vines(ten.toString()).size(3), 10);
        fault(5, ten + ";^sees a g by 1");
    }

    private static void wallSeen() {
        Edge.of("I", "wall ROW ROW costs WHOLE (between the first one and the second one it sees;");
        fine(SEES + ";wall a b costs 1");
        fault(7, SEES + ";wall b ^a costs 1");
        fault(7, SEES + ";wall a ^c costs 1");
        fault(7, AB + ";wall a ^b costs 1;sees a b by 1");
    }

    private static void wallOnce() {
        Edge.of("I", "each two in that order once; 0 .. 99; up to 5)");
        fault(3, SEES + ";wall a b costs 1;wall a ^b costs 2");
        fault(3, SEES + ";sees b a by 1;wall b a costs 1;wall a b costs 1;wall b ^a costs 2");
        fine(SEES + ";sees b a by 1;wall b a costs 1;wall a b costs 1");
    }

    private static void wallBounds() {
        Edge.of("I", "0 .. 99; up to 5)");
        bounds(SEES + ";wall a b costs ", "", 0, 99);
        StringBuilder five = new StringBuilder(manyRows(7));
        for (char seen = 'b'; seen <= 'g'; seen++) {
            five.append(";sees a ").append(seen).append(" by 1");
        }
        for (char seen = 'b'; seen <= 'f'; seen++) {
            five.append(";wall a ").append(seen).append(" costs 1");
        }
        Check.due("five walls", Check.vines(five.toString()).size(4), 5);
        fault(5, five + ";^wall a g costs 1");
    }

    private static void signBounds() {
        Edge.of("I", "sign ROW WHOLE costs WHOLE day WHOLE (to that row; 1 .. 20; 0 .. 99; 0 .. 20; up to 6)");
        bounds(A + ";sign a ", " costs 1 day 1", 1, 20);
        bounds(A + ";sign a 1 costs ", " day 1", 0, 99);
        bounds(A + ";sign a 1 costs 1 day ", "", 0, 20);
        String six = A + ";sign a 1 costs 1 day 1".repeat(6);
        Check.due("six signs, all alike", Check.vines(six).size(5), 6);
        fault(5, six + ";^sign a 1 costs 1 day 1");
    }

    private static void rumourBounds() {
        Edge.of("I", "rumour ROW WHOLE day WHOLE (to that row; 1 .. 20; 0 .. 20; up to 5)");
        bounds(A + ";rumour a ", " day 1", 1, 20);
        bounds(A + ";rumour a 1 day ", "", 0, 20);
        String five = A + ";rumour a 1 day 1".repeat(5);
        Check.due("five rumours, all alike", Check.vines(five).size(6), 5);
        fault(5, five + ";^rumour a 1 day 1");
    }

    private static void seenBounds() {
        Edge.of("I", "doubted ROW day WHOLE, or believed ROW day WHOLE (0 .. 20;");
        bounds(A + ";doubted a day ", "", 0, 20);
        bounds(A + ";believed a day ", "", 0, 20);
        Edge.of("I", "up to 5 of both)");
        for (int doubted = 0; doubted <= 5; doubted++) {
            StringBuilder five = new StringBuilder(A);
            for (int day = 0; day < 5; day++) {
                five.append(day < doubted ? ";doubted" : ";believed").append(" a day ").append(day);
            }
            Check.due("five seen, " + doubted + " doubted", Check.vines(five.toString()).size(7), 5);
            fault(5, five + ";^doubted a day 9");
            fault(5, five + ";^believed a day 9");
        }
    }

    private static void seenOnce() {
        Edge.of("I", "each row and day once of both;");
        fault(3, AB + ";doubted a day 0;doubted a day ^0");
        fault(3, AB + ";believed a day 20;believed a day ^20");
        fault(3, AB + ";doubted a day 7;believed a day ^7");
        fault(3, AB + ";believed a day 7;doubted b day 7;doubted a day ^007");
        fault(3, ABC + ";doubted b day 7;doubted c day 7;believed c day ^7");
        fault(3, ABC + ";doubted b day 7;doubted c day 7;believed b day ^7");
        fine(AB + ";believed a day 7;doubted b day 7;doubted a day 8;believed b day 6");
    }

    private static void names() {
        Edge.of("I", "NAMES are WORDS but slope, row, sees, wall, sign, rumour, doubted, believed");
        for (String word : LINE_WORDS) {
            fault(1, HEAD + ";row ^" + word + " plain faith 10 grapes 1");
            fault(1, SEES + ";sees ^" + word + " b by 1");
            fault(1, SEES + ";sees b ^" + word + " by 1");
            fault(1, SEES + ";wall ^" + word + " b costs 1");
            fault(1, SEES + ";wall a ^" + word + " costs 1");
            fault(1, A + ";sign ^" + word + " 1 costs 1 day 1");
            fault(1, A + ";rumour ^" + word + " 1 day 1");
            fault(1, A + ";doubted ^" + word + " day 1");
            fault(1, A + ";believed ^" + word + " day 1");
        }
        for (String word : "bears hail plain old new deaf faith grapes by costs day rows see doubt".split(" ")) {
            fine(HEAD + ";row " + word + " plain faith 10 grapes 1;sign " + word + " 1 costs 1 day 1;doubted " + word + " day 1");
        }
        fault(1, HEAD + ";row ^7 plain faith 10 grapes 1");
    }

    private static void namesOnce() {
        Edge.of("I", "each told once, ahead of its use");
        fault(3, A + ";row ^a plain faith 10 grapes 1");
        fault(3, ABC + ";row ^c plain faith 10 grapes 1");
        fault(2, HEAD + ";sign ^a 1 costs 1 day 1;row a plain faith 10 grapes 1");
        fine(A + ";sign a 1 costs 1 day 1;row b plain faith 10 grapes 1;sign b 1 costs 1 day 1");
    }

    // ---- Term I: faults

    private static void fromTheLeft() {
        Edge.of("I", "FAULTS, the first that is met from the left");
        fault(4, "slope bears ^100 hail 101;row a plain faith 31 grapes 100");
        fault(4, "slope bears 1 hail ^101;row row row !");
        fault(2, AB + ";sees a ^x by 0;row a");
        fault(3, AB + ";sees a ^a by 0 !");
        fault(1, AB + ";sees a ^9 by 0;row a");
        fault(6, "^row row;slope !");
    }

    private static void leastNumber() {
        Edge.of("I", "of one place the least number");
        // At the end there is neither a line nor a row.
        fault(1, "^");
        fault(1, HEAD + ";^");
        // A row doesn't see itself, either.
        fault(3, SEES + ";wall a ^a costs 1");
        // A name that isn't told isn't seen, either.
        fault(2, SEES + ";wall a ^x costs 1");
        fault(2, SEES + ";wall ^x x costs 1");
        // A whole of four digits is out of bounds, too.
        fault(1, "slope bears ^1000 hail 0");
    }

    private static void formByte() {
        Edge.of("I", "1 FORM: the first byte that begins no TOKEN");
        fault(1, A + ";sign a 1 costs 1 day 1 ^!");
        fault(1, A + ";sign a 1 costs 1 day ^! 1");
        fault(1, A + ";sign a 1 costs ^\u00e9 day 1");
        fault(1, "^!");
        faultAt(1, 0, "" + (char) 0);
        faultAt(1, A.length(), A + (char) 0);
        faultAt(1, 5, "slope" + (char) 255);
        fault(1, A + ";^abcdefghi");
        fault(1, A + ";sign a ^0000");
    }

    private static void formToken() {
        Edge.of("I", "or TOKEN with which no SLOPE goes on");
        String[] right = (SEES + ";wall a b costs 1;sign a 1 costs 1 day 1;rumour a 1 day 1;doubted a day 1;believed b day 1")
                .replace(";", " ; ").split(" ");
        StringBuilder ahead = new StringBuilder();
        for (String token : right) {
            boolean isWhole = Character.isDigit(token.charAt(0));
            boolean isName = token.length() == 1 && Character.isLetter(token.charAt(0));
            // What is no token, wherever it stands; nor is it the end.
            fault(1, ahead + "^abcdefghi");
            fault(1, ahead + "^1000");
            fault(1, ahead + "^!");
            fault(1, ahead + "^" + (char) 0);
            // A word where a whole is due, and a whole elsewhere; where no name is due, a name.
            fault(1, ahead + "^" + (isWhole ? "zz" : "5"));
            if (!isName) {
                fault(1, ahead + "^a");
            }
            if (!token.equals(";")) {
                fault(1, ahead + "^;");
            }
            if (token.length() > 1 && !isWhole) {
                fault(1, ahead + "^z" + token.substring(1));
                fault(1, ahead + "^" + token.substring(0, token.length() - 1) + "z");
                fault(1, ahead + "^" + token.substring(1));
                fault(1, ahead + "^" + token.substring(0, token.length() - 1));
                fault(1, ahead + "^" + token + "s");
            }
            ahead.append(token).append(' ');
        }
        fine(ahead.toString());
        fault(1, ahead + "^abcdefghi");
        fault(1, ahead + "^1000");
        fault(1, ahead + "^!");
    }

    private static void formEnd() {
        Edge.of("I", "(the end: its place)");
        String whole = SEES + ";wall a b costs 1;sign a 1 costs 1 day 1;rumour a 1 day 1;doubted a day 1;believed b day 1";
        for (int i = A.length() + 1; i <= whole.length(); i++) {
            // A text that ends behind a line is fine, one that ends behind any other token is not.
            boolean behindToken = whole.charAt(i - 1) == ' ';
            if (behindToken) {
                fault(1, whole.substring(0, i - 1) + "^");
                fault(1, whole.substring(0, i) + "^");
                fault(1, whole.substring(0, i) + "   ^");
            } else if (whole.charAt(i - 1) == ';') {
                fine(whole.substring(0, i - 1));
                fault(1, whole.substring(0, i) + "^");
            }
        }
        fault(1, "^");
        fault(1, "     ^");
        fault(1, "slope^");
    }

    private static void untold() {
        Edge.of("I", "2 a NAME that isn't told; at it.");
        fault(2, SEES + ";sees ^x b by 1");
        fault(2, SEES + ";sees b ^x by 1");
        fault(2, SEES + ";wall ^x b costs 1");
        fault(2, SEES + ";wall a ^x costs 1");
        fault(2, A + ";sign ^b 1 costs 1 day 1");
        fault(2, A + ";rumour ^b 1 day 1");
        fault(2, A + ";doubted ^b day 1");
        fault(2, A + ";believed ^b day 1");
        fault(2, A + ";believed ^aa day 1");
        fault(2, HEAD + ";sign ^a 1 costs 1 day 1");
    }

    private static void toldAgain() {
        Edge.of("I", "3 a NAME told again; at it;");
        fault(3, A + ";row ^a plain faith 10 grapes 1");
        fault(3, AB + ";row ^a plain faith 10 grapes 1");
        fault(3, AB + ";row ^b");
    }

    private static void secondRow() {
        Edge.of("I", "a second ROW that is the first, that the first one sees already (sees), or behind a wall already (wall); at it;");
        fault(3, SEES + ";sees c ^c by 1");
        fault(3, SEES + ";wall c ^c costs 1");
        fault(3, SEES + ";sees a ^b by 1");
        fault(3, SEES + ";wall a b costs 1;wall a ^b costs 1");
        fine(SEES + ";wall a b costs 1;sees b a by 1;wall b a costs 1");
        fault(3, SEES + ";wall a b costs 1;sees a ^b by 1");
    }

    private static void dayAgain() {
        Edge.of("I", "a day told of that ROW already (doubted, believed); at its WHOLE;");
        fault(3, A + ";doubted a day 5;believed a day ^5");
        fault(3, A + ";doubted a day 5;believed a day 6;doubted a day ^6");
        fault(3, A + ";doubted a day 0;doubted a day ^0");
    }

    private static void secondSlope() {
        Edge.of("I", "a second slope: at that WORD.");
        fault(3, HEAD + ";^" + HEAD);
        fault(3, A + ";^" + HEAD);
        fault(3, SEES + ";^slope");
    }

    private static void outOfBounds() {
        Edge.of("I", "4 a WHOLE out of bounds; at it.");
        fault(4, "slope bears ^100");
        fault(4, HEAD + ";row a plain faith ^31");
        fault(4, AB + ";sees a b by ^0");
        fault(4, A + ";sign a ^0 costs 1 day 1");
        fault(4, A + ";sign a ^00");
        fault(4, A + ";believed a day ^21");
    }

    private static void many() {
        Edge.of("I", "5 MANY: a LINE more of its sort than there is room for, at its first WORD.");
        String more = ";sees;wall;sign;rumour;doubted;believed;row";
        for (String word : more.substring(1).split(";")) {
            fault(5, Edge.MOST + ";^" + word);
            fault(5, Edge.MOST + ";^" + word + " !");
        }
        // Its first word comes ahead of all else that may be wrong with it.
        fault(5, manyRows(7) + ";^row a plain faith 31");
    }

    private static void lacksSlope() {
        Edge.of("I", "6 LACKS: any LINE ahead of the slope; at its WORD;");
        for (String word : LINE_WORDS) {
            if (!word.equals("slope")) {
                fault(6, "^" + word);
                fault(6, "  ^" + word + " a a;" + HEAD);
                fault(6, "^" + word + "!");
            }
        }
        fault(1, "^rows");
    }

    private static void lacksRow() {
        Edge.of("I", "at the end: no row.");
        fault(6, HEAD + "^");
        fault(6, HEAD + "  ^");
        fine(A);
    }

    private static void blind() {
        Edge.of("I", "7 BLIND: a second ROW of a wall that the first one doesn't see; at it.");
        fault(7, SEES + ";wall b ^a costs 1");
        fault(7, SEES + ";wall b ^c costs 100");
        fault(7, SEES + ";sees b c by 1;wall a ^c costs 1");
    }

    // ---- promises 1 to 5

    private static void newObject() {
        Edge.of("1", "No SLOPE.");
        NorthVines x = new NorthVines();
        Check.due("trouble()", x.trouble(), 0);
        Check.due("fault()", x.fault(), 0);
        Check.due("where()", x.where(), -1);
        for (int what = 0; what <= 11; what++) {
            Check.due("size(" + what + ")", x.size(what), 0);
        }
        for (String name : Edge.calls().keySet()) {
            Edge.withoutSlope(name);
        }
        Check.dueThrow("led(0)", x, 0);
        Check.act("undo()", x, x.undo(), 6);
    }

    private static void highestFirst() {
        Edge.of("2", "Twenty bytes come behind THE TAPE, of each number the highest first: how many it has;");
        NorthVines x = new NorthVines();
        // "slope bears 1 hail 0", then ";row a plain faith 1" and "2 grapes 34" with bytes that aren't read behind it.
        Check.due("first", x.feed(0x736c6f70, 0x65206265, 0x61727320, 0x31206861, 0x696c2030), 20);
        Check.due("second", x.feed(0x3b726f77, 0x20612070, 0x6c61696e, 0x20666169, 0x74682031), 40);
        Check.due("third", x.feed(0x32206772, 0x61706573, 0x203334ff, -1, Integer.MIN_VALUE), 60);
        Check.due("its bytes", x.size(11), 60);
        Check.answered("slope(51)", x, x.slope(51), 1);
        Check.due("FAITH", x.row(0, 1), 12);
        Check.due("GRAPES", x.row(0, 3), 34);
        // A byte of 128 or more is one byte, and not part of the others.
        for (int sign : new int[] {128, 160, 200, 255}) {
            NorthVines y = new NorthVines();
            y.feed(sign << 24 | 0x736c6f, 0x70652020, 0, 0, 0);
            y.slope(4);
            Check.due("byte " + sign + ", fault()", y.fault(), 1);
            Check.due("byte " + sign + ", where()", y.where(), 0);
            y.feed(0x736c6f70, 0x65000000 | sign << 16, 0, 0, 0);
            y.slope(8);
            Check.due("byte " + sign + " behind a word, where()", y.where(), 5);
        }
    }

    private static void tapeFull() {
        Edge.of("2", "NONE, and none comes, if there would be more than 900.");
        NorthVines x = new NorthVines();
        Check.feed(x, A + " ".repeat(860 - A.length()));
        Check.due("880", x.feed(0x20202020, 0x20202020, 0x20202020, 0x20202020, 0x20202020), 880);
        Check.due("900", x.feed(0x20202020, 0x20202020, 0x20202020, 0x20202020, 0x20202020), 900);
        Check.due("920", x.feed(0x21212121, 0x21212121, 0x21212121, 0x21212121, 0x21212121), -1);
        Check.due("920 again", x.feed(0x21212121, 0x21212121, 0x21212121, 0x21212121, 0x21212121), -1);
        Check.due("bytes", x.size(11), 900);
        Check.due("no trouble by it", x.trouble(), 0);
        Check.answered("none came: slope(900)", x, x.slope(900), 1);
        Check.due("there is room again", x.feed(0, 0, 0, 0, 0), 20);
    }

    private static void firstBytes() {
        Edge.of("3", "The first n bytes of THE TAPE");
        NorthVines x = new NorthVines();
        Check.feed(x, A + "5;row b");
        Check.answered("up to a digit of grapes", x, x.slope(A.length()), 1);
        Check.due("GRAPES", x.row(0, 3), 1);
        Check.feed(x, A + "5;row b");
        Check.answered("and one byte more", x, x.slope(A.length() + 1), 1);
        Check.due("GRAPES", x.row(0, 3), 15);
        Check.feed(x, A + "5;row b");
        Check.refused("and the mark", x, x.slope(A.length() + 2), 4);
        Check.due("where()", x.where(), A.length() + 2);
        // Words that would go on behind the part are words of their own.
        Check.feed(x, A + ";doubtedly");
        Check.refused("a word that would go on", x, x.slope(A.length() + 8), 4);
        Check.due("where()", x.where(), A.length() + 8);
        Check.feed(x, A + ";believedly");
        Check.refused("one of eight letters that would go on", x, x.slope(A.length() + 9), 4);
        Check.due("where()", x.where(), A.length() + 9);
        Check.feed(x, A + ";doubted a day 1234");
        Check.answered("a whole that would go on", x, x.slope(A.length() + 16), 1);
        Check.feed(x, A);
        Check.refused("no byte", x, x.slope(0), 4);
        Check.due("fault()", x.fault(), 1);
        Check.due("where()", x.where(), 0);
    }

    private static void emptyThen() {
        Edge.of("3", "(it is empty then)");
        NorthVines x = new NorthVines();
        Check.feed(x, A + "   more");
        Check.answered("slope", x, x.slope(A.length()), 1);
        Check.due("bytes", x.size(11), 0);
        Check.refused("slope(1) of it", x, x.slope(1), 2);
        Check.feed(x, "slope !" + A);
        Check.refused("with a fault", x, x.slope(7), 4);
        Check.due("bytes behind a fault", x.size(11), 0);
        Check.due("the next ones are the first again", x.feed(0, 0, 0, 0, 0), 20);
    }

    private static void fromNowOn() {
        Edge.of("3", "(no DAY yet, no sign SHOWN, no wall up; nothing to undo, no IMAGES)");
        NorthVines x = Check.vines(Edge.ONE);
        String fresh = Edge.picture(x);
        x.show(0, true);
        x.put(0, true);
        x.day();
        x.image();
        Check.due("it isn't as it was", Edge.picture(x).equals(fresh), false);
        Check.due("the same slope again", Check.read(x, Edge.ONE), 2);
        Check.due("all is as at first", Edge.picture(x).equals(fresh), true);
        Check.act("undo()", x, x.undo(), 6);
        Check.act("back(0)", x, x.back(0), 1);
        Check.due("no DAY", x.size(8), 0);
        Check.due("no sign", x.sign(0, 4), 0);
        Check.due("no wall", x.wall(0, 3), 0);
        for (int images = 0; images <= 3; images++) {
            Check.due("the same slope, images " + images, Check.read(x, Edge.ONE), 2);
            for (int i = 0; i < images; i++) {
                x.image();
            }
            x.day();
            Check.due("the same slope again, images " + images, Check.read(x, Edge.ONE), 2);
            x.show(0, true);
            Check.due("the first IMAGE has the first number", x.image(), 0);
            x.show(0, false);
            x.put(0, true);
            Check.due("back to it", x.back(0), true);
            Check.due("the sign by it", x.sign(0, 4), 1);
            Check.due("the wall by it", x.wall(0, 3), 0);
            Check.due("FAITH by it", x.row(0, 1), 12);
        }
    }

    private static void howManyRows() {
        Edge.of("3", "how many rows.");
        for (int n = 1; n <= 7; n++) {
            NorthVines x = new NorthVines();
            Check.answered("slope with " + n, x, Check.read(x, manyRows(n)), n);
        }
    }

    private static void slopeNumber() {
        Edge.of("3", "NONE: 2 (THE TAPE stays);");
        NorthVines x = Check.vines(Edge.ONE);
        Check.refused("slope(1) of an empty tape", x, x.slope(1), 2);
        Check.feed(x, A);
        int fed = x.size(11);
        String before = Edge.picture(x);
        for (int n : new int[] {-1, fed + 1, 901, Integer.MIN_VALUE, Integer.MAX_VALUE}) {
            Check.refused("slope(" + n + ")", x, x.slope(n), 2);
            Check.due("slope(" + n + ") leaves all", Edge.picture(x).equals(before), true);
        }
        Check.answered("slope of all that was fed", x, x.slope(fed), 1);
    }

    private static void slopeFault() {
        Edge.of("3", "4 (the SLOPE stays).");
        NorthVines x = Check.vines(Edge.ONE);
        x.day();
        x.show(0, true);
        x.put(0, true);
        x.image();
        String before = Edge.picture(x);
        for (String bad : new String[] {"", "x", HEAD, A + ";", Edge.MOST + ";row", "row"}) {
            Check.refused("slope of " + bad, x, Check.read(x, bad), 4);
            Check.due("all stays", Edge.picture(x).equals(before), true);
        }
        // Texts that tell another slope, up to their fault: all questions are asked of the one that stays.
        String other = Edge.slope("3 20", "z new 2 9", "y deaf 8 8", "x old 29 7") + ";sees x y by 9;sees z x by 9;wall z x costs 1"
                + ";sign x 9 costs 9 day 1;rumour x 9 day 1;doubted x day 1";
        for (String bad : new String[] {"", "slope bears 9 hail 9;", other + ";row z", other + ";believed x day 1", Edge.MOST + ";wall"}) {
            NorthVines y = Check.vines(Edge.RICH);
            String fresh = Edge.answers(y);
            Check.refused("slope of " + bad, y, Check.read(y, bad), 4);
            Check.due("all answers stay, " + bad, Edge.answers(y).equals(fresh), true);
            NorthVines z = Check.vines(Edge.RICH);
            z.put(1, true);
            z.show(0, true);
            z.day();
            String later = Edge.answers(z);
            Check.refused("slope of " + bad + ", later", z, Check.read(z, bad), 4);
            Check.due("all answers stay later, " + bad, Edge.answers(z).equals(later), true);
            Check.due("acts go on: show", z.show(1, true), true);
            Check.due("acts go on: put", z.put(0, true), true);
            Check.due("no act that there isn't: show", z.show(2, true), false);
            Check.due("no act that there isn't: put", z.put(2, true), false);
            int ahead = z.doubtersIn(1);
            Check.due("acts go on: day", z.day(), ahead);
        }
        Check.due("names stay told by none", Check.read(x, HEAD + ";row c plain faith 1 grapes 1;sign a"), -1);
        Check.due("fault()", x.fault(), 2);
        Check.act("undo()", x, x.undo(), 0);
        Check.due("the wall", x.wall(0, 3), 0);
        Check.act("back(0)", x, x.back(0), 0);
        Check.due("the wall again", x.wall(0, 3), 1);
    }

    private static void latestFault() {
        Edge.of("4", "The FAULT of the latest slope() not refused by 2;");
        NorthVines x = new NorthVines();
        String[] bad = {"x", SEES + ";sees x", SEES + ";slope", "slope bears 100", manyRows(8), "row", SEES + ";wall b a"};
        for (int number = 1; number <= 7; number++) {
            Check.read(x, bad[number - 1]);
            Check.due("fault()", x.fault(), number);
            x.slope(-1);
            Check.due("fault() behind slope(-1)", x.fault(), number);
            x.slope(1);
            Check.due("fault() behind slope(1)", x.fault(), number);
            x.doubters();
            Check.due("fault() behind another call", x.fault(), number);
        }
    }

    private static void noFault() {
        Edge.of("4", "0 without one.");
        NorthVines x = new NorthVines();
        Check.due("new", x.fault(), 0);
        x.slope(1);
        Check.due("behind slope(1)", x.fault(), 0);
        Check.read(x, "x");
        Check.due("behind a fault", x.fault(), 1);
        Check.read(x, A);
        Check.due("behind a slope", x.fault(), 0);
        x.slope(-1);
        Check.due("behind a slope and slope(-1)", x.fault(), 0);
    }

    private static void whereByFour() {
        Edge.of("5", "Its place, if the latest call that may be refused was by 4;");
        NorthVines x = new NorthVines();
        Check.read(x, A + ";wall");
        Check.due("where()", x.where(), A.length() + 5);
        // Of none of these a number is told: they may not be refused.
        x.feed(1, 2, 3, 4, 5);
        Check.due("behind feed", x.where(), A.length() + 5);
        x.fault();
        Check.due("behind fault", x.where(), A.length() + 5);
        x.size(99);
        Check.due("behind size", x.where(), A.length() + 5);
        x.trouble();
        Check.due("behind trouble", x.where(), A.length() + 5);
        Check.dueThrow("led(0)", x, 0);
        Check.due("behind led", x.where(), A.length() + 5);
        Check.due("behind where", x.where(), A.length() + 5);
        x.slope(0);
        Check.due("of the next fault", x.where(), 0);
    }

    private static void whereElse() {
        Edge.of("5", "NONE else.");
        Check.due("new", new NorthVines().where(), -1);
        for (Map.Entry<String, ToLongFunction<NorthVines>> call : Edge.calls().entrySet()) {
            NorthVines x = Check.vines(Edge.ONE);
            Check.read(x, "slope !");
            Check.due("ahead of " + call.getKey(), x.where(), 6);
            call.getValue().applyAsLong(x);
            Check.due("behind " + call.getKey(), x.where(), -1);
            NorthVines none = new NorthVines();
            Check.read(none, "slope !");
            call.getValue().applyAsLong(none);
            Check.due("behind " + call.getKey() + ", refused by 1", none.where(), -1);
        }
        NorthVines x = new NorthVines();
        Check.read(x, "slope !");
        x.slope(1);
        Check.due("behind slope(1), refused by 2", x.where(), -1);
        Check.read(x, "slope !");
        x.undo();
        Check.due("behind undo()", x.where(), -1);
        Check.read(x, "slope !");
        Check.read(x, A);
        Check.due("behind a slope", x.where(), -1);
    }
}
