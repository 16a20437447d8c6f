/**
 * Promises 13 to 26 and 35 to 38 round the last DAY of which a sign or a rumour may be told: a DAY with number 20
 * on which things even out says nothing of the DAYS behind it.
 */
public final class LateDaysTest {
    // a sees c believe: 1 more a day, 19 behind 19 days; the rumours leave it 9 behind 20 and 21 days.
    private static final String RISING = "slope bears 2 hail 0;row a plain faith 0 grapes 12;row c plain faith 30 grapes 5"
            + ";sees a c by 1;wall a c costs 6;sign a 1 costs 4 day 20;rumour a 11 day 19;rumour a 1 day 20";
    // a sees z doubt: 1 less a day, 10 behind 20 days; the sign, if shown, leaves it 10 behind 21 days.
    private static final String FALLING = "slope bears 2 hail 0;row a plain faith 30 grapes 12;row z plain faith 0 grapes 5"
            + ";sees a z by 1;sign a 1 costs 3 day 20";

    public static void main(String[] args) {
        rising();
        risingFromLater();
        falling();
        walled();
        told();
        evenByRumourAndSign();
        Check.end("LateDaysTest");
    }

    private static void rising() {
        NorthVines x = Check.vines(RISING);
        int[] faith = {18, 19, 9, 9, 10, 11, 12};
        for (int i = 0; i < faith.length; i++) {
            Check.answered("rising: faithIn(0, " + (18 + i) + ")", x, x.faithIn(0, 18 + i), faith[i]);
            Check.answered("rising: doubtersIn(" + (18 + i) + ")", x, x.doubtersIn(18 + i), faith[i] < 10 ? 1 : 0);
        }
        Check.due("rising: faithIn(0, 40)", x.faithIn(0, 40), 28);
        Check.due("rising: still(): day 20 leaves all as it is", x.still(), 20);
        Check.due("rising: harvest(21)", x.harvest(21), 21 * 5 + 9 * 2 + 10 * 12 + 2 * 2);
        Check.due("rising: harvest(22)", x.harvest(22), 22 * 5 + 9 * 2 + 10 * 12 + 2 * 2 + 12);
        Check.answered("rising: feign(21)", x, x.feign(21), 4);
        Check.answered("rising: feignSigns(21)", x, x.feignSigns(21), 1);
        Check.answered("rising: feignFor(0, 21)", x, x.feignFor(0, 21), 4);
        Check.answered("rising: walls(21)", x, x.walls(21), -2);
        Check.answered("rising: wallsUp(21)", x, x.wallsUp(21), -2);
        for (int n : new int[] {22, 23, 40}) {
            Check.answered("rising: feign(" + n + ")", x, x.feign(n), 0);
            Check.answered("rising: feignSigns(" + n + ")", x, x.feignSigns(n), 0);
            Check.answered("rising: feignFor(0, " + n + ")", x, x.feignFor(0, n), 0);
            Check.answered("rising: walls(" + n + ")", x, x.walls(n), 0);
            Check.answered("rising: wallsUp(" + n + ")", x, x.wallsUp(n), 0);
            Check.answered("rising: value(" + n + ")", x, x.value(n), 2);
            Check.answered("rising: take(" + n + ")", x, x.take(n), -2);
        }
        Check.answered("rising: value(21)", x, x.value(21), 2);
        Check.answered("rising: take(21)", x, x.take(21), 0);
        Check.answered("rising: bestSign(20)", x, x.bestSign(20), -2);
        Check.answered("rising: bestSign(21)", x, x.bestSign(21), 0);
    }

    // The same from other days than the first: it goes by the DAY's number, not by how many went by.
    private static void risingFromLater() {
        NorthVines x = Check.vines(RISING);
        for (int gone = 1; gone <= 22; gone++) {
            Check.due("day() to " + gone, x.day(), gone < 10 || gone == 20 || gone == 21 ? 1 : 0);
            Check.due("behind " + gone + ": faithIn to 40", x.faithIn(0, 40 - gone), 28);
            if (gone <= 21) {
                Check.due("behind " + gone + ": faithIn to 21", x.faithIn(0, 21 - gone), 9);
                Check.due("behind " + gone + ": faithIn to 22", x.faithIn(0, 22 - gone), 10);
                Check.due("behind " + gone + ": feignFor to 22", x.feignFor(0, 22 - gone), 0);
            }
        }
        Check.due("rising on: faithIn(0, 20)", x.faithIn(0, 20), 30);
    }

    private static void falling() {
        NorthVines x = Check.vines(FALLING);
        Check.answered("falling: feignFor(0, 20)", x, x.feignFor(0, 20), 0);
        Check.answered("falling: feignFor(0, 21)", x, x.feignFor(0, 21), 3);
        Check.answered("falling: value(21)", x, x.value(21), 1);
        Check.answered("falling: take(21)", x, x.take(21), 0);
        for (int n : new int[] {22, 23, 40}) {
            Check.answered("falling: feignFor(0, " + n + ")", x, x.feignFor(0, n), -2);
            Check.answered("falling: value(" + n + ")", x, x.value(n), 0);
            Check.answered("falling: take(" + n + ")", x, x.take(n), -2);
        }
        Check.due("falling: when(0)", x.when(0), 21);
        Check.due("falling: worstDay()", x.worstDay(), 21);
        x.show(0, true);
        Check.due("falling, shown: faithIn(0, 20)", x.faithIn(0, 20), 10);
        Check.due("falling, shown: faithIn(0, 21)", x.faithIn(0, 21), 10);
        Check.due("falling, shown: faithIn(0, 22)", x.faithIn(0, 22), 9);
        Check.due("falling, shown: faithIn(0, 31)", x.faithIn(0, 31), 0);
        Check.due("falling, shown: doubtersIn(21)", x.doubtersIn(21), 2);
        Check.due("falling, shown: doubtersIn(22)", x.doubtersIn(22), 3);
        Check.due("falling, shown: when(0)", x.when(0), 22);
        Check.due("falling, shown: worstDay()", x.worstDay(), 22);
        Check.due("falling, shown: still()", x.still(), 20);
    }

    // a and z are 9 behind 20 days; with the wall up both are behind 21 days too, and 10 behind 22.
    private static void walled() {
        NorthVines x = Check.vines("slope bears 0 hail 0;row a plain faith 29 grapes 1;row c plain faith 29 grapes 1"
                + ";row z plain faith 29 grapes 1;sees a c by 1;sees a z by 9;sees z c by 1;wall z c costs 0;wall a z costs 7"
                + ";rumour z 20 day 19;rumour z 1 day 20;rumour a 20 day 19;rumour a 1 day 20");
        Check.answered("walled: walls(20)", x, x.walls(20), -2);
        Check.answered("walled: walls(21)", x, x.walls(21), -2);
        Check.answered("walled: walls(22)", x, x.walls(22), 7);
        Check.answered("walled: wallsUp(22)", x, x.wallsUp(22), 2);
        Check.answered("walled: walls(26)", x, x.walls(26), 7);
        Check.answered("walled: wallsUp(27)", x, x.wallsUp(27), 0);
        Check.answered("walled: faithIn(0, 22)", x, x.faithIn(0, 22), 0);
        x.put(1, true);
        Check.answered("walled, up: walls(21)", x, x.walls(21), -2);
        Check.answered("walled, up: walls(22)", x, x.walls(22), 0);
        Check.answered("walled, up: wallsUp(22)", x, x.wallsUp(22), 0);
    }

    private static void told() {
        NorthVines x = Check.vines("slope bears 2 hail 0;row q plain faith 20 grapes 1;row a plain faith 30 grapes 12"
                + ";row z plain faith 30 grapes 5;sees a z by 1;sign a 1 costs 3 day 20");
        x.show(0, true);
        Check.answered("told: tell(21)", x, x.tell(21), 0);
        Check.answered("told: tellMost(21)", x, x.tellMost(21), 1);
        for (int n : new int[] {22, 23, 40}) {
            Check.answered("told: tell(" + n + ")", x, x.tell(n), 2);
            Check.answered("told: tellMost(" + n + ")", x, x.tellMost(n), 2);
        }
    }

    // Nobody is seen: a sign and a rumour of one day even out, and those of the next day still come.
    private static void evenByRumourAndSign() {
        for (int day = 0; day < 20; day++) {
            NorthVines x = Check.vines("slope bears 2 hail 0;row a plain faith 15 grapes 3;sign a 4 costs 1 day " + day
                    + ";rumour a 4 day " + day + ";rumour a 6 day " + (day + 1));
            x.show(0, true);
            Check.due("even on day " + day, x.faithIn(0, day + 1), 15);
            Check.due("the day behind " + day, x.faithIn(0, day + 2), 9);
            Check.due("behind all, " + day, x.doubtersIn(40), 1);
            Check.due("when(0), " + day, x.when(0), day + 2);
        }
    }
}
