/** Promises 1 to 5 and 9: a new port's water, table, wind, depth, berth and hasWater. */
public final class WaterTest {
    public static void main(String[] args) {
        newWater();
        table();
        tableBehindAMove();
        wind();
        windInPlaceOfWind();
        windAtItsEdges();
        windOutOfRange();
        depth();
        berth();
        berthBehindAMove();
        waterToComeIn();
        waterOfTheNextHour();
        waterToGoOut();
        waterOfStates();
        waterOutOfRange();
        waterByWind();
        Check.end();
    }

    private static void newWater() {
        HarborTides x = new HarborTides();
        for (int hour = 0; hour <= 3100; hour += 7) {
            Check.due("depth(" + hour + ") at first", x.depth(hour), 50);
        }
        for (int berth = 0; berth < 6; berth++) {
            Check.due("berth(" + berth + ") at first", x.berth(berth, 60), 60);
        }
        for (int hour = 0; hour < 12; hour++) {
            Check.due("table(" + hour + ") at first", x.table(hour, 50), 50);
        }
        Check.due("the hour at first is 0: wind(3)", x.wind(3, 1, 1), 0);
    }

    private static void table() {
        HarborTides x = new HarborTides();
        for (int hour = 0; hour < 12; hour++) {
            Check.due("table(" + hour + ", ..)", x.table(hour, 10 * hour), 50);
        }
        for (int hour = 0; hour <= 3100; hour += 7) {
            Check.due("depth(" + hour + ")", x.depth(hour), 10 * (hour % 12));
        }
        Check.due("table(0, 150)", x.table(0, 150), 0);
        Check.due("table(0, 7)", x.table(0, 7), 150);
        Check.due("table(11, 0)", x.table(11, 0), 110);
        Check.noSuch("table(-1, 50)", () -> x.table(-1, 50));
        Check.noSuch("table(12, 50)", () -> x.table(12, 50));
        Check.noSuch("table(MIN, 50)", () -> x.table(Integer.MIN_VALUE, 50));
        Check.noSuch("table(MAX, 50)", () -> x.table(Integer.MAX_VALUE, 50));
        Check.noSuch("table(12, 151)", () -> x.table(12, 151));
        Check.outOfRange("table(0, -1)", () -> x.table(0, -1));
        Check.outOfRange("table(0, 151)", () -> x.table(0, 151));
        Check.due("depth(0) behind calls that threw", x.depth(0), 7);
        x.pass(30);
        Check.due("table(5, 99) for past hours", x.table(5, 99), 50);
        Check.due("depth(5) past", x.depth(5), 99);
        Check.due("depth(29) past", x.depth(29), 99);
        Check.due("depth(41) to come", x.depth(41), 99);
    }

    private static void tableBehindAMove() {
        HarborTides x = new HarborTides();
        x.ship(1, 20, 0, 0);
        x.order(0, 2);
        x.pass(1);
        Check.due("table with an order and no move", x.table(3, 60), 50);
        Check.due("pass(1)", x.pass(1), 1);
        Check.refused("table(3, 70) behind a move", () -> x.table(3, 70));
        Check.outOfRange("table(3, 151) behind a move", () -> x.table(3, 151));
        Check.noSuch("table(12, 70) behind a move", () -> x.table(12, 70));
        Check.due("depth(3)", x.depth(3), 60);
    }

    private static void wind() {
        HarborTides x = new HarborTides();
        Check.due("wind(10, 3, -15)", x.wind(10, 3, -15), 0);
        Check.due("depth(9)", x.depth(9), 50);
        Check.due("depth(10)", x.depth(10), 35);
        Check.due("depth(12)", x.depth(12), 35);
        Check.due("depth(13)", x.depth(13), 50);
        Check.due("depth(22)", x.depth(22), 50);
        x.table(10, 0);
        Check.due("depth(10) below 0", x.depth(10), -15);
        Check.due("depth(22)", x.depth(22), 0);
    }

    private static void windInPlaceOfWind() {
        HarborTides x = new HarborTides();
        Check.due("wind(10, 4, 20)", x.wind(10, 4, 20), 0);
        Check.due("wind(12, 4, -5)", x.wind(12, 4, -5), 20);
        Check.due("depth(11)", x.depth(11), 70);
        Check.due("depth(12)", x.depth(12), 45);
        Check.due("depth(15)", x.depth(15), 45);
        Check.due("depth(16)", x.depth(16), 50);
        Check.due("wind(9, 3, 0)", x.wind(9, 3, 0), 0);
        Check.due("depth(10)", x.depth(10), 50);
        Check.due("wind(15, 1, 7)", x.wind(15, 1, 7), -5);
        Check.due("wind(15, 1, 8)", x.wind(15, 1, 8), 7);
        Check.due("depth(15)", x.depth(15), 58);
    }

    private static void windAtItsEdges() {
        HarborTides x = new HarborTides();
        Check.due("wind(3, 48, 40)", x.wind(3, 48, 40), 0);
        Check.due("depth(2)", x.depth(2), 50);
        Check.due("depth(3)", x.depth(3), 90);
        Check.due("depth(50)", x.depth(50), 90);
        Check.due("depth(51)", x.depth(51), 50);
        Check.due("wind(3100, 48, -40)", x.wind(3100, 48, -40), 0);
        Check.due("depth(3100)", x.depth(3100), 10);
        Check.due("depth(3099)", x.depth(3099), 50);
        Check.due("wind(3090, 48, 1)", x.wind(3090, 48, 1), 0);
        Check.due("depth(3100)", x.depth(3100), 51);
        x.pass(4);
        Check.outOfRange("wind(6, ..) at 4", () -> x.wind(6, 1, 0));
        Check.due("wind(7, ..) at 4", x.wind(7, 1, 0), 40);
    }

    private static void windOutOfRange() {
        HarborTides x = new HarborTides();
        Check.outOfRange("wind(2, 1, 1)", () -> x.wind(2, 1, 1));
        Check.outOfRange("wind(-1, 1, 1)", () -> x.wind(-1, 1, 1));
        Check.outOfRange("wind(3101, 1, 1)", () -> x.wind(3101, 1, 1));
        Check.outOfRange("wind(MAX, 48, 1)", () -> x.wind(Integer.MAX_VALUE, 48, 1));
        Check.outOfRange("wind(MIN, 48, 1)", () -> x.wind(Integer.MIN_VALUE, 48, 1));
        Check.outOfRange("wind(3, 0, 1)", () -> x.wind(3, 0, 1));
        Check.outOfRange("wind(3, 49, 1)", () -> x.wind(3, 49, 1));
        Check.outOfRange("wind(3, MAX, 1)", () -> x.wind(3, Integer.MAX_VALUE, 1));
        Check.outOfRange("wind(3, 1, 41)", () -> x.wind(3, 1, 41));
        Check.outOfRange("wind(3, 1, -41)", () -> x.wind(3, 1, -41));
        for (int hour = 0; hour < 60; hour++) {
            Check.due("depth behind winds that threw", x.depth(hour), 50);
        }
    }

    private static void depth() {
        HarborTides x = new HarborTides();
        x.table(4, 33);
        Check.due("depth(0)", x.depth(0), 50);
        Check.due("depth(3100)", x.depth(3100), 33);
        Check.outOfRange("depth(-1)", () -> x.depth(-1));
        Check.outOfRange("depth(3101)", () -> x.depth(3101));
        Check.outOfRange("depth(MIN)", () -> x.depth(Integer.MIN_VALUE));
        Check.outOfRange("depth(MAX)", () -> x.depth(Integer.MAX_VALUE));
    }

    private static void berth() {
        HarborTides x = new HarborTides();
        Check.due("berth(0, 0)", x.berth(0, 0), 60);
        Check.due("berth(0, 200)", x.berth(0, 200), 0);
        Check.due("berth(0, 61)", x.berth(0, 61), 200);
        Check.due("berth(5, 5)", x.berth(5, 5), 60);
        Check.noSuch("berth(-1, 60)", () -> x.berth(-1, 60));
        Check.noSuch("berth(6, 60)", () -> x.berth(6, 60));
        Check.noSuch("berth(6, 201)", () -> x.berth(6, 201));
        Check.noSuch("berth(MAX, 60)", () -> x.berth(Integer.MAX_VALUE, 60));
        Check.outOfRange("berth(0, -1)", () -> x.berth(0, -1));
        Check.outOfRange("berth(0, 201)", () -> x.berth(0, 201));
        Check.due("berth(0, ..) behind calls that threw", x.berth(0, 62), 61);
        Check.due("berth(1, ..) is its own", x.berth(1, 62), 60);
    }

    private static void berthBehindAMove() {
        HarborTides x = new HarborTides();
        x.ship(1, 20, 0, 3);
        x.ship(1, 20, 0, 4);
        x.order(0, 1);
        Check.due("berth(3, ..) before the move", x.berth(3, 80), 60);
        Check.due("pass(1)", x.pass(1), 1);
        Check.refused("berth(3, ..) when it is COMING", () -> x.berth(3, 70));
        Check.outOfRange("berth(3, 201)", () -> x.berth(3, 201));
        Check.noSuch("berth(6, 70)", () -> x.berth(6, 70));
        Check.due("berth(4, ..) has no move", x.berth(4, 70), 60);
        x.pass(2);
        Check.refused("berth(3, ..) when it is MOORED", () -> x.berth(3, 70));
        x.order(0, 4);
        x.pass(3);
        Check.due("state(0)", x.state(0), HarborTides.GONE);
        Check.refused("berth(3, ..) when it is GONE", () -> x.berth(3, 70));
    }

    private static void waterToComeIn() {
        HarborTides x = new HarborTides();
        x.ship(1, 75, 0, 0);
        x.ship(1, 76, 0, 0);
        x.ship(1, 45, 0, 1);
        x.ship(1, 46, 0, 1);
        x.berth(1, 0);
        Check.due("draught 75 over the bar of 80", x.hasWater(0, 5), true);
        Check.due("draught 76 over the bar of 80", x.hasWater(1, 5), false);
        Check.due("draught 45 at the berth of 50", x.hasWater(2, 5), true);
        Check.due("draught 46 at the berth of 50", x.hasWater(3, 5), false);
    }

    private static void waterOfTheNextHour() {
        HarborTides x = new HarborTides();
        x.table(1, 100);
        x.table(2, 60);
        x.berth(0, 10);
        x.ship(1, 65, 0, 0);
        x.ship(1, 66, 0, 0);
        Check.due("bar of 130 at 1, berth of 70 at 2, draught 65", x.hasWater(0, 1), true);
        Check.due("bar of 130 at 1, berth of 70 at 2, draught 66", x.hasWater(1, 1), false);
        x.table(3, 100);
        x.berth(0, 60);
        x.ship(1, 85, 0, 0);
        x.ship(1, 86, 0, 0);
        Check.due("bar of 90 at 2, berth of 160 at 3, draught 85", x.hasWater(2, 2), true);
        Check.due("bar of 90 at 2, berth of 160 at 3, draught 86", x.hasWater(3, 2), false);
        Check.due("hour 14 is as hour 2", x.hasWater(2, 14), true);
        Check.due("the next hour of 11 is 0 of the table", x.hasWater(0, 11), true);
    }

    private static void waterToGoOut() {
        HarborTides x = new HarborTides();
        for (int hour = 0; hour < 12; hour++) {
            x.table(hour, hour == 6 ? 100 : hour == 7 ? 60 : 150);
        }
        for (int k = 0; k < 4; k++) {
            x.berth(k, 10);
        }
        x.ship(1, 85, 0, 0);
        x.ship(1, 86, 0, 1);
        x.ship(1, 85, 0, 2);
        x.ship(1, 65, 0, 3);
        x.order(0, 1);
        x.order(1, 1);
        x.order(3, 1);
        Check.due("pass(3)", x.pass(3), 3);
        Check.due("state(0)", x.state(0), HarborTides.MOORED);
        Check.due("out at 6: berth of 110, bar of 90 at 7, draught 85", x.hasWater(0, 6), true);
        Check.due("out at 6: berth of 110, bar of 90 at 7, draught 86", x.hasWater(1, 6), false);
        Check.due("in at 6: bar of 130, berth of 70 at 7, draught 85", x.hasWater(2, 6), false);
        Check.due("out at 7: berth of 70, draught 85", x.hasWater(0, 7), false);
        Check.due("out at 7: berth of 70, draught 65", x.hasWater(3, 7), true);
        Check.due("in at 7: bar of 90, draught 85", x.hasWater(2, 7), true);
        Check.due("out at 5: berth of 160, bar of 130 at 6", x.hasWater(1, 5), true);
    }

    private static void waterOfStates() {
        HarborTides x = new HarborTides();
        x.ship(1, 20, 0, 0);
        x.order(0, 1);
        Check.due("AT_SEA with an order", x.hasWater(0, 0), true);
        x.pass(1);
        Check.due("COMING", x.hasWater(0, 1), false);
        Check.outOfRange("COMING, hour -1", () -> x.hasWater(0, -1));
        x.pass(2);
        Check.due("MOORED", x.hasWater(0, 0), true);
        x.order(0, 4);
        x.pass(1);
        Check.due("GOING", x.hasWater(0, 4), false);
        x.pass(2);
        Check.due("GONE", x.hasWater(0, 6), false);
        Check.outOfRange("GONE, hour 3001", () -> x.hasWater(0, 3001));
    }

    private static void waterOutOfRange() {
        HarborTides x = new HarborTides();
        Check.noSuch("hasWater of no ship", () -> x.hasWater(0, 0));
        x.ship(1, 20, 0, 0);
        Check.due("hasWater(0, 0)", x.hasWater(0, 0), true);
        Check.due("hasWater(0, 3000)", x.hasWater(0, 3000), true);
        Check.outOfRange("hasWater(0, -1)", () -> x.hasWater(0, -1));
        Check.outOfRange("hasWater(0, 3001)", () -> x.hasWater(0, 3001));
        Check.outOfRange("hasWater(0, MAX)", () -> x.hasWater(0, Integer.MAX_VALUE));
        Check.noSuch("hasWater(1, 0)", () -> x.hasWater(1, 0));
        Check.noSuch("hasWater(-1, 0)", () -> x.hasWater(-1, 0));
        Check.noSuch("hasWater(1, 3001)", () -> x.hasWater(1, 3001));
    }

    private static void waterByWind() {
        HarborTides x = new HarborTides();
        x.ship(1, 75, 0, 0);
        x.wind(3001, 1, -36);
        x.wind(10, 1, -1);
        Check.due("hasWater(0, 3000), berth of 74 at 3001", x.hasWater(0, 3000), false);
        Check.due("hasWater(0, 2999)", x.hasWater(0, 2999), true);
        Check.due("hasWater(0, 10), bar of 79", x.hasWater(0, 10), false);
        Check.due("hasWater(0, 9), berth of 109 at 10", x.hasWater(0, 9), true);
    }
}
