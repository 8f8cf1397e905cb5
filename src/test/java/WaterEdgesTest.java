/** Promises 2 to 5 and the sentences of "Water" on tables, winds, depths and berths, at their edges. */
public final class WaterEdgesTest {
    public static void main(String[] args) {
        firstAndLastHourOfTheTable();
        leastAndGreatestDepthOfTheTable();
        tableReturnsTheDepthBeforeAlone();
        tableSetsPastHoursToo();
        tableUntilAMoveHasBegun();
        tableBehindATideLost();
        tableThrowsTheFirstListed();
        theTableBeginsAnewBy12();
        windFrom3AboveNow();
        windTo3100();
        windOfOneHourAndOf48();
        windOverTheLastHours();
        leastAndGreatestSurge();
        windReturnsTheFirstHoursSurge();
        theWindToldLastCounts();
        windOutOfRangeInMoreThanOne();
        firstAndLastHourOfDepth();
        depthBelow0();
        greatestDepth();
        firstAndLastBerth();
        leastAndGreatestDepthOfABerth();
        berthUntilAMoveHasBegunToIt();
        berthBehindATideLost();
        berthBehindAnOrderFailed();
        berthThrowsTheFirstListed();
        Check.end();
    }

    // Promise 2: "hour: 0 to 11".
    private static void firstAndLastHourOfTheTable() {
        HarborTides x = new HarborTides();
        Check.due("table(0, 40)", x.table(0, 40), 50);
        Check.due("table(11, 30)", x.table(11, 30), 50);
        for (int hour : new int[] {Integer.MIN_VALUE, -12, -1, 12, 24, Integer.MAX_VALUE}) {
            Check.noSuch(x, "table(" + hour + ", 20)", () -> x.table(hour, 20));
        }
        Check.due("depth(0)", x.depth(0), 40);
        Check.due("depth(1)", x.depth(1), 50);
        Check.due("depth(10)", x.depth(10), 50);
        Check.due("depth(11)", x.depth(11), 30);
    }

    // Promise 2: "depth: 0 to 150".
    private static void leastAndGreatestDepthOfTheTable() {
        HarborTides x = new HarborTides();
        Check.due("table(4, 0)", x.table(4, 0), 50);
        Check.due("depth(4), the least", x.depth(4), 0);
        Check.due("table(4, 150)", x.table(4, 150), 0);
        Check.due("depth(4), the greatest", x.depth(4), 150);
        for (int depth : new int[] {Integer.MIN_VALUE, -1, 151, Integer.MAX_VALUE}) {
            Check.outOfRange(x, "table(4, " + depth + ")", () -> x.table(4, depth));
        }
        Check.due("table(4, 1)", x.table(4, 1), 150);
        Check.due("table(4, 149)", x.table(4, 149), 1);
    }

    // Promise 2: "Returns the depth before": that of the table, without the surge.
    private static void tableReturnsTheDepthBeforeAlone() {
        HarborTides x = new HarborTides();
        x.wind(3, 48, 40);
        Check.due("table(3, 50), the same depth as before", x.table(3, 50), 50);
        Check.due("table(3, 60)", x.table(3, 60), 50);
        Check.due("table(3, 70)", x.table(3, 70), 60);
        Check.due("depth(3)", x.depth(3), 110);
    }

    // Promise 2: "for all hours, past ones as well as those to come".
    private static void tableSetsPastHoursToo() {
        HarborTides x = Ports.at(25);
        Check.due("table(0, 90)", x.table(0, 90), 50);
        for (int hour : new int[] {0, 12, 24, 36, 3000}) {
            Check.due("depth(" + hour + ")", x.depth(hour), 90);
        }
        Check.due("depth(25), now", x.depth(25), 50);
        Check.due("table(1, 80) of now", x.table(1, 80), 50);
        Check.due("depth(25), now", x.depth(25), 80);
        Check.due("depth(3000), the last but one set", x.depth(3000), 90);
    }

    // Promise 2: "IllegalStateException if a move has begun".
    private static void tableUntilAMoveHasBegun() {
        HarborTides x = new HarborTides();
        Check.due("table without a ship", x.table(9, 51), 50);
        x.ship(1, 20, 0, 0);
        x.order(0, 2);
        Check.due("table with an order", x.table(9, 52), 51);
        x.pass(1);
        Check.due("table an hour ahead of the move", x.table(9, 53), 52);
        Check.due("pass(1)", x.pass(1), 1);
        Check.refused(x, "table in the hour of the first move", () -> x.table(9, 54));
        Check.refused(x, "table(9, 53), the depth that it has", () -> x.table(9, 53));
        Check.refused(x, "table(0, 0)", () -> x.table(0, 0));
        Check.refused(x, "table(11, 150)", () -> x.table(11, 150));
        x.pass(2);
        x.order(0, 5);
        x.pass(4);
        Check.due("state(0)", x.state(0), HarborTides.GONE);
        Check.refused(x, "table when the only ship is GONE", () -> x.table(9, 54));
        Check.due("depth(9)", x.depth(9), 53);
    }

    // No move has begun by a tide that is LOST.
    private static void tableBehindATideLost() {
        HarborTides x = new HarborTides();
        x.ship(1, 150, 0, 0);
        x.order(0, 1);
        x.pass(1);
        Check.due("lost(0)", x.lost(0), 1);
        Check.due("table behind a tide lost", x.table(0, 60), 50);
    }

    // "Where two exceptions apply, the one that is listed first is thrown."
    private static void tableThrowsTheFirstListed() {
        HarborTides x = new HarborTides();
        Check.noSuch(x, "table(-1, -1)", () -> x.table(-1, -1));
        Check.noSuch(x, "table(12, 151)", () -> x.table(12, 151));
        x.ship(1, 20, 0, 0);
        x.order(0, 1);
        x.pass(1);
        Check.noSuch(x, "table(12, 0) behind a move", () -> x.table(12, 0));
        Check.noSuch(x, "table(-1, 151) behind a move", () -> x.table(-1, 151));
        Check.outOfRange(x, "table(0, -1) behind a move", () -> x.table(0, -1));
        Check.outOfRange(x, "table(11, 151) behind a move", () -> x.table(11, 151));
        Check.refused(x, "table(11, 150) behind a move", () -> x.table(11, 150));
    }

    // "that of the table for what is left of the hour by 12".
    private static void theTableBeginsAnewBy12() {
        HarborTides x = new HarborTides();
        for (int hour = 0; hour < 12; hour++) {
            x.table(hour, 100 + hour);
        }
        int[] hours = {0, 1, 11, 12, 13, 23, 24, 35, 36, 2999, 3000, 3099, 3100};
        int[] depths = {100, 101, 111, 100, 101, 111, 100, 111, 100, 111, 100, 103, 104};
        for (int k = 0; k < hours.length; k++) {
            Check.due("depth(" + hours[k] + ")", x.depth(hours[k]), depths[k]);
        }
    }

    // Promise 3: "from: the first hour, at least 3 above now".
    private static void windFrom3AboveNow() {
        for (int now : new int[] {0, 1, 9, 2997, 2999, 3000}) {
            HarborTides x = Ports.at(now);
            for (int from : new int[] {Integer.MIN_VALUE, -1, 0, now, now + 1, now + 2}) {
                Check.outOfRange(x, "wind(" + from + ", 1, 5) at " + now, () -> x.wind(from, 1, 5));
            }
            Check.due("wind(.., 1, 5), 3 above " + now, x.wind(now + 3, 1, 5), 0);
            Check.due("depth 2 above " + now, x.depth(now + 2), 50);
            Check.due("depth 3 above " + now, x.depth(now + 3), 55);
            Check.due("depth 4 above " + now, x.depth(now + 4), 50);
        }
    }

    // Promise 3: "from: .. to 3100".
    private static void windTo3100() {
        HarborTides x = new HarborTides();
        for (int from : new int[] {3101, 3102, 3148, Integer.MAX_VALUE - 47, Integer.MAX_VALUE}) {
            Check.outOfRange(x, "wind(" + from + ", 1, 5)", () -> x.wind(from, 1, 5));
            Check.outOfRange(x, "wind(" + from + ", 48, 5)", () -> x.wind(from, 48, 5));
        }
        Check.due("wind(3100, 1, 5)", x.wind(3100, 1, 5), 0);
        Check.due("depth(3100)", x.depth(3100), 55);
        Check.due("depth(3099)", x.depth(3099), 50);
        Check.due("wind(3100, 1, 0)", x.wind(3100, 1, 0), 5);
    }

    // Promise 3: "hours: 1 to 48".
    private static void windOfOneHourAndOf48() {
        HarborTides x = new HarborTides();
        for (int hours : new int[] {Integer.MIN_VALUE, -1, 0, 49, Integer.MAX_VALUE}) {
            Check.outOfRange(x, "wind(10, " + hours + ", 5)", () -> x.wind(10, hours, 5));
        }
        Check.due("wind(10, 1, 5)", x.wind(10, 1, 5), 0);
        Check.due("depth(9)", x.depth(9), 50);
        Check.due("depth(10)", x.depth(10), 55);
        Check.due("depth(11)", x.depth(11), 50);
        Check.due("wind(20, 48, 6)", x.wind(20, 48, 6), 0);
        Check.due("depth(19)", x.depth(19), 50);
        for (int hour = 20; hour < 68; hour++) {
            Check.due("depth(" + hour + ")", x.depth(hour), 56);
        }
        Check.due("depth(68)", x.depth(68), 50);
    }

    // Hours of a wind behind 3100 are as good as untold: those up to it have the surge.
    private static void windOverTheLastHours() {
        HarborTides x = new HarborTides();
        Check.due("wind(3053, 48, 7), to 3100", x.wind(3053, 48, 7), 0);
        Check.due("depth(3052)", x.depth(3052), 50);
        Check.due("depth(3053)", x.depth(3053), 57);
        Check.due("depth(3100)", x.depth(3100), 57);
        Check.due("wind(3054, 48, 8), to 3101", x.wind(3054, 48, 8), 7);
        Check.due("depth(3053)", x.depth(3053), 57);
        Check.due("depth(3100)", x.depth(3100), 58);
        Check.due("wind(3100, 48, 9), to 3147", x.wind(3100, 48, 9), 8);
        Check.due("depth(3099)", x.depth(3099), 58);
        Check.due("depth(3100)", x.depth(3100), 59);
        Check.due("depth(0), which no wind comes round to", x.depth(0), 50);
    }

    // Promise 3: "surge: -40 to 40".
    private static void leastAndGreatestSurge() {
        HarborTides x = new HarborTides();
        for (int surge : new int[] {Integer.MIN_VALUE, -41, 41, Integer.MAX_VALUE}) {
            Check.outOfRange(x, "wind(10, 1, " + surge + ")", () -> x.wind(10, 1, surge));
        }
        Check.due("wind(10, 1, -40)", x.wind(10, 1, -40), 0);
        Check.due("depth(10)", x.depth(10), 10);
        Check.due("wind(10, 1, 40)", x.wind(10, 1, 40), -40);
        Check.due("depth(10)", x.depth(10), 90);
        Check.due("wind(10, 1, 0)", x.wind(10, 1, 0), 40);
        Check.due("depth(10)", x.depth(10), 50);
    }

    // Promise 3: "Returns the surge of the first hour before": of no other hour, and not the depth.
    private static void windReturnsTheFirstHoursSurge() {
        HarborTides x = new HarborTides();
        x.wind(10, 1, 5);
        x.wind(11, 1, 6);
        x.wind(12, 1, 7);
        Check.due("wind(9, 3, 1)", x.wind(9, 3, 1), 0);
        Check.due("wind(11, 2, 2)", x.wind(11, 2, 2), 1);
        Check.due("wind(12, 1, 3)", x.wind(12, 1, 3), 2);
        Check.due("wind(13, 1, 4)", x.wind(13, 1, 4), 0);
        Check.due("wind(10, 1, 4)", x.wind(10, 1, 4), 1);
    }

    // "the surge is 0, or what was told last for it".
    private static void theWindToldLastCounts() {
        HarborTides x = new HarborTides();
        x.wind(10, 10, 20);
        x.wind(13, 4, -20);
        int[] surges = {0, 20, 20, 20, -20, -20, -20, -20, 20, 20, 20, 0};
        for (int k = 0; k < surges.length; k++) {
            Check.due("depth(" + (9 + k) + ")", x.depth(9 + k), 50 + surges[k]);
        }
        x.wind(10, 10, 0);
        for (int hour = 9; hour <= 20; hour++) {
            Check.due("depth(" + hour + ") by a wind of 0", x.depth(hour), 50);
        }
        x.wind(12, 12, 3);
        x.pass(10);
        Check.due("depth(12), 2 above now: told in time", x.depth(12), 53);
        x.pass(5);
        Check.due("depth(12), past", x.depth(12), 53);
    }

    private static void windOutOfRangeInMoreThanOne() {
        HarborTides x = new HarborTides();
        Check.outOfRange(x, "wind(2, 0, 41)", () -> x.wind(2, 0, 41));
        Check.outOfRange(x, "wind(3101, 49, -41)", () -> x.wind(3101, 49, -41));
        Check.outOfRange(x, "wind(3, 0, -41)", () -> x.wind(3, 0, -41));
        Check.outOfRange(x, "wind(2, 48, 40)", () -> x.wind(2, 48, 40));
    }

    // Promise 4: "hour: 0 to 3100", whatever the hour is.
    private static void firstAndLastHourOfDepth() {
        for (int now : new int[] {0, 3000}) {
            HarborTides x = Ports.at(now);
            x.table(0, 70);
            x.table(4, 80);
            Check.due("depth(0) at " + now, x.depth(0), 70);
            Check.due("depth(3100) at " + now, x.depth(3100), 80);
            for (int hour : new int[] {Integer.MIN_VALUE, -12, -1, 3101, 3112, Integer.MAX_VALUE}) {
                Check.outOfRange(x, "depth(" + hour + ") at " + now, () -> x.depth(hour));
            }
        }
    }

    // Promise 4: "Returns the depth, perhaps below 0".
    private static void depthBelow0() {
        HarborTides x = new HarborTides();
        x.table(3, 0);
        x.table(4, 1);
        x.table(5, 40);
        x.table(6, 39);
        x.wind(3, 1, -1);
        x.wind(4, 1, -1);
        x.wind(5, 2, -40);
        Check.due("depth(3)", x.depth(3), -1);
        Check.due("depth(4)", x.depth(4), 0);
        Check.due("depth(5)", x.depth(5), 0);
        Check.due("depth(6)", x.depth(6), -1);
        x.wind(3, 1, -40);
        Check.due("depth(3), the least there is", x.depth(3), -40);
        Check.due("depth(15), without that surge", x.depth(15), 0);
    }

    private static void greatestDepth() {
        HarborTides x = new HarborTides();
        x.table(3, 150);
        x.wind(3, 1, 40);
        Check.due("depth(3)", x.depth(3), 190);
    }

    // Promise 5: "berth: 0 to 5".
    private static void firstAndLastBerth() {
        HarborTides x = new HarborTides();
        Check.due("berth(0, 61)", x.berth(0, 61), 60);
        Check.due("berth(5, 65)", x.berth(5, 65), 60);
        for (int berth : new int[] {Integer.MIN_VALUE, -1, 6, Integer.MAX_VALUE}) {
            Check.noSuch(x, "berth(" + berth + ", 60)", () -> x.berth(berth, 60));
        }
        for (int berth = 0; berth < 6; berth++) {
            Check.due("berth(" + berth + ", 0)", x.berth(berth, 0), berth == 0 ? 61 : berth == 5 ? 65 : 60);
        }
    }

    // Promise 5: "depth: 0 to 200".
    private static void leastAndGreatestDepthOfABerth() {
        HarborTides x = new HarborTides();
        Check.due("berth(2, 0)", x.berth(2, 0), 60);
        Check.due("berth(2, 200)", x.berth(2, 200), 0);
        for (int depth : new int[] {Integer.MIN_VALUE, -1, 201, Integer.MAX_VALUE}) {
            Check.outOfRange(x, "berth(2, " + depth + ")", () -> x.berth(2, depth));
        }
        Check.due("berth(2, 1)", x.berth(2, 1), 200);
        Check.due("berth(2, 199)", x.berth(2, 199), 1);
        Check.due("berth(2, 199), the same again", x.berth(2, 199), 199);
    }

    // Promise 5: "IllegalStateException if a move has begun to or from it".
    private static void berthUntilAMoveHasBegunToIt() {
        HarborTides x = new HarborTides();
        x.ship(1, 20, 0, 0);
        x.ship(1, 20, 0, 5);
        x.order(0, 2);
        x.pass(1);
        Check.due("berth(0, 70) an hour ahead of the move", x.berth(0, 70), 60);
        Check.due("pass(1)", x.pass(1), 1);
        Check.refused(x, "berth(0, 80), COMING", () -> x.berth(0, 80));
        Check.refused(x, "berth(0, 70), as deep as it is", () -> x.berth(0, 70));
        for (int berth = 1; berth < 6; berth++) {
            Check.due("berth(" + berth + ", 80), without a move", x.berth(berth, 80), 60);
        }
        x.pass(2);
        Check.refused(x, "berth(0, 80), MOORED", () -> x.berth(0, 80));
        x.order(0, 5);
        x.order(1, 6);
        x.pass(1);
        Check.refused(x, "berth(0, 80), GOING", () -> x.berth(0, 80));
        Check.due("berth(5, 90) an hour ahead of its move", x.berth(5, 90), 80);
        x.pass(4);
        Check.refused(x, "berth(0, 80), GONE", () -> x.berth(0, 80));
        Check.refused(x, "berth(5, 80)", () -> x.berth(5, 80));
        Check.due("berth(1, 90)", x.berth(1, 90), 80);
    }

    private static void berthBehindATideLost() {
        HarborTides x = new HarborTides();
        x.ship(1, 150, 0, 1);
        x.order(0, 1);
        x.pass(1);
        Check.due("lost(0)", x.lost(0), 1);
        Check.due("berth(1, 70) behind a tide lost", x.berth(1, 70), 60);
    }

    // Four tugs are on duty; the ships of contract 3 take them all at 1 and at 4.
    private static void berthBehindAnOrderFailed() {
        HarborTides x = new HarborTides();
        x.ship(4, 20, 3, 0);
        x.ship(4, 20, 0, 1);
        x.ship(4, 20, 3, 2);
        x.order(0, 1);
        x.order(1, 1);
        x.order(2, 4);
        Check.due("pass(4)", x.pass(4), 2);
        Check.due("claims(1)", x.claims(1), 1);
        Check.refused(x, "berth(0, 70)", () -> x.berth(0, 70));
        Check.due("berth(1, 70) behind an order that failed", x.berth(1, 70), 60);
        Check.refused(x, "berth(2, 70)", () -> x.berth(2, 70));
    }

    private static void berthThrowsTheFirstListed() {
        HarborTides x = new HarborTides();
        Check.noSuch(x, "berth(-1, -1)", () -> x.berth(-1, -1));
        Check.noSuch(x, "berth(6, 201)", () -> x.berth(6, 201));
        x.ship(1, 20, 0, 0);
        x.order(0, 1);
        x.pass(1);
        Check.outOfRange(x, "berth(0, -1) behind a move", () -> x.berth(0, -1));
        Check.outOfRange(x, "berth(0, 201) behind a move", () -> x.berth(0, 201));
        Check.refused(x, "berth(0, 0) behind a move", () -> x.berth(0, 0));
        Check.refused(x, "berth(0, 200) behind a move", () -> x.berth(0, 200));
        Check.noSuch(x, "berth(6, 60) behind a move", () -> x.berth(6, 60));
    }
}
