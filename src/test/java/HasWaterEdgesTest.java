/** Promise 9 and the last sentence of "Water": has a ship water to come in, or to go out? At the edges. */
public final class HasWaterEdgesTest {
    public static void main(String[] args) {
        inOverTheBarOfThatHour();
        inAtTheBerthOfTheNextHour();
        inNeedsNothingElse();
        outAtTheBerthOfThatHour();
        outOverTheBarOfTheNextHour();
        outNeedsNothingElse();
        theBarIs30AndTheBerth60AtFirst();
        leastAndGreatestDraught();
        theNextHourBeginsTheTableAnew();
        firstAndLastHour();
        theLastHoursNextOne();
        pastHoursAndHoursToCome();
        firstAndLastShip();
        eachState();
        theFirstListedIsThrown();
        Check.end();
    }

    /** A port with the table at 150 but for the hours 5 and 6, and berths of a depth. */
    private static HarborTides portWith(int depthAt5, int depthAt6, int berthDepth) {
        HarborTides x = new HarborTides();
        for (int hour = 0; hour < 12; hour++) {
            x.table(hour, hour == 5 ? depthAt5 : hour == 6 ? depthAt6 : 150);
        }
        for (int berth = 0; berth < 6; berth++) {
            x.berth(berth, berthDepth);
        }
        return x;
    }

    /** That port at 4, with a ship of a draught that is MOORED. */
    private static HarborTides mooredWith(int depthAt5, int depthAt6, int berthDepth, int draught) {
        HarborTides x = portWith(depthAt5, depthAt6, berthDepth);
        x.ship(1, draught, 0, 0);
        x.order(0, 1);
        x.pass(4);
        Check.due("state(0)", x.state(0), HarborTides.MOORED);
        return x;
    }

    private static void inOverTheBarOfThatHour() {
        HarborTides x = portWith(40, 150, 200);
        x.ship(1, 64, 0, 0);
        x.ship(1, 65, 0, 0);
        x.ship(1, 66, 0, 0);
        Check.due("70 over the bar, 6 more than the draught", x.hasWater(0, 5), true);
        Check.due("70 over the bar, 5 more than the draught", x.hasWater(1, 5), true);
        Check.due("70 over the bar, 4 more than the draught", x.hasWater(2, 5), false);
        Check.due("the hour ahead", x.hasWater(2, 4), true);
        Check.due("the hour behind", x.hasWater(2, 6), true);
    }

    private static void inAtTheBerthOfTheNextHour() {
        HarborTides x = portWith(150, 60, 10);
        x.ship(1, 64, 0, 0);
        x.ship(1, 65, 0, 0);
        x.ship(1, 66, 0, 0);
        Check.due("70 at the berth, 6 more than the draught", x.hasWater(0, 5), true);
        Check.due("70 at the berth, 5 more than the draught", x.hasWater(1, 5), true);
        Check.due("70 at the berth, 4 more than the draught", x.hasWater(2, 5), false);
        Check.due("the hour ahead", x.hasWater(2, 4), true);
    }

    // To come in, neither the berth of that hour nor the bar of the next one is asked for.
    private static void inNeedsNothingElse() {
        HarborTides x = portWith(80, 20, 40);
        x.ship(1, 55, 0, 0);
        Check.due("berth of 60 at 6, bar of 50 at 6", x.hasWater(0, 5), true);
        HarborTides y = portWith(80, 100, 0);
        y.ship(1, 95, 0, 0);
        Check.due("bar of 110 at 5, berth of 80 at 5", y.hasWater(0, 5), true);
    }

    private static void outAtTheBerthOfThatHour() {
        Check.due("70 at the berth, draught 64", mooredWith(60, 150, 10, 64).hasWater(0, 5), true);
        Check.due("70 at the berth, draught 65", mooredWith(60, 150, 10, 65).hasWater(0, 5), true);
        Check.due("70 at the berth, draught 66", mooredWith(60, 150, 10, 66).hasWater(0, 5), false);
        Check.due("the hour ahead", mooredWith(60, 150, 10, 66).hasWater(0, 4), true);
    }

    private static void outOverTheBarOfTheNextHour() {
        Check.due("70 over the bar, draught 64", mooredWith(150, 40, 200, 64).hasWater(0, 5), true);
        Check.due("70 over the bar, draught 65", mooredWith(150, 40, 200, 65).hasWater(0, 5), true);
        Check.due("70 over the bar, draught 66", mooredWith(150, 40, 200, 66).hasWater(0, 5), false);
        Check.due("the hour ahead", mooredWith(150, 40, 200, 66).hasWater(0, 4), true);
        Check.due("the hour behind", mooredWith(150, 40, 200, 66).hasWater(0, 6), true);
    }

    // To go out, neither the bar of that hour nor the berth of the next one is asked for.
    private static void outNeedsNothingElse() {
        Check.due("bar of 50 at 5, berth of 60 at 5", mooredWith(20, 80, 40, 55).hasWater(0, 5), true);
        Check.due("berth of 70 at 6, bar of 100 at 6", mooredWith(100, 70, 0, 95).hasWater(0, 5), true);
    }

    // Ahead of any call the bar has 80, the berth 110.
    private static void theBarIs30AndTheBerth60AtFirst() {
        HarborTides x = new HarborTides();
        x.ship(1, 75, 0, 5);
        x.ship(1, 76, 0, 5);
        Check.due("draught 75", x.hasWater(0, 0), true);
        Check.due("draught 76", x.hasWater(1, 0), false);
        HarborTides y = new HarborTides();
        y.table(5, 150);
        y.ship(1, 105, 0, 0);
        y.ship(1, 106, 0, 0);
        Check.due("draught 105 at a berth of 110", y.hasWater(0, 5), true);
        Check.due("draught 106 at a berth of 110", y.hasWater(1, 5), false);
    }

    private static void leastAndGreatestDraught() {
        HarborTides x = portWith(125, 150, 5);
        x.ship(1, 150, 0, 0);
        Check.due("draught 150, bar and berth of 155", x.hasWater(0, 5), true);
        x.table(5, 124);
        Check.due("draught 150, bar of 154", x.hasWater(0, 5), false);
        x.table(5, 125);
        x.berth(0, 4);
        Check.due("draught 150, berth of 154", x.hasWater(0, 5), false);
        HarborTides y = portWith(0, 0, 15);
        y.ship(1, 10, 0, 0);
        y.wind(5, 1, -15);
        Check.due("draught 10, bar and berth of 15", y.hasWater(0, 5), true);
        y.wind(5, 1, -16);
        Check.due("draught 10, bar of 14", y.hasWater(0, 5), false);
        y.wind(5, 1, -40);
        Check.due("draught 10, bar below 0", y.hasWater(0, 5), false);
    }

    private static void theNextHourBeginsTheTableAnew() {
        HarborTides x = new HarborTides();
        x.table(0, 20);
        x.ship(1, 75, 0, 0);
        x.ship(1, 76, 0, 1);
        Check.due("at 11, berth of 80 at 12", x.hasWater(0, 11), true);
        Check.due("at 23, berth of 80 at 24", x.hasWater(0, 23), true);
        x.table(0, 19);
        Check.due("at 11, berth of 79 at 12", x.hasWater(0, 11), false);
        Check.due("at 23, berth of 79 at 24", x.hasWater(0, 23), false);
        Check.due("at 10", x.hasWater(0, 10), true);
        Check.due("at 2999, berth of 79 at 3000", x.hasWater(0, 2999), false);
    }

    // Promise 9: "hour: 0 to 3000".
    private static void firstAndLastHour() {
        for (int now : new int[] {0, 3000}) {
            HarborTides x = Ports.at(now);
            x.ship(1, 20, 0, 0);
            Check.due("hasWater(0, 0) at " + now, x.hasWater(0, 0), true);
            Check.due("hasWater(0, 3000) at " + now, x.hasWater(0, 3000), true);
            for (int hour : new int[] {Integer.MIN_VALUE, -1, 3001, 3100, Integer.MAX_VALUE}) {
                Check.outOfRange(x, "hasWater(0, " + hour + ") at " + now, () -> x.hasWater(0, hour));
            }
        }
    }

    private static void theLastHoursNextOne() {
        HarborTides x = new HarborTides();
        x.ship(1, 75, 0, 0);
        x.wind(3001, 1, -30);
        Check.due("hasWater(0, 3000), berth of 80 at 3001", x.hasWater(0, 3000), true);
        x.wind(3001, 1, -31);
        Check.due("hasWater(0, 3000), berth of 79 at 3001", x.hasWater(0, 3000), false);
        x.wind(3001, 1, 0);
        x.wind(3000, 1, -1);
        Check.due("hasWater(0, 3000), bar of 79 at 3000", x.hasWater(0, 3000), false);
    }

    private static void pastHoursAndHoursToCome() {
        HarborTides x = new HarborTides();
        x.ship(1, 75, 0, 0);
        x.wind(5, 1, -1);
        x.pass(10);
        Check.due("at 5, past, with its wind", x.hasWater(0, 5), false);
        Check.due("at 6, past", x.hasWater(0, 6), true);
        Check.due("at 10, now", x.hasWater(0, 10), true);
        Check.due("at 17, to come", x.hasWater(0, 17), true);
    }

    private static void firstAndLastShip() {
        HarborTides x = new HarborTides();
        for (int k = 0; k < 30; k++) {
            x.ship(1, k == 29 ? 76 : 75, 0, 0);
        }
        Check.due("hasWater(0, 1)", x.hasWater(0, 1), true);
        Check.due("hasWater(29, 1)", x.hasWater(29, 1), false);
        for (int ship : new int[] {Integer.MIN_VALUE, -1, 30, Integer.MAX_VALUE}) {
            Check.noSuch(x, "hasWater(" + ship + ", 1)", () -> x.hasWater(ship, 1));
        }
    }

    // Promise 9: "false if it is COMING, GOING or GONE".
    private static void eachState() {
        HarborTides x = Ports.ofEachState();
        for (int hour : new int[] {0, 8, 9, 3000}) {
            Check.due("AT_SEA, at " + hour, x.hasWater(HarborTides.AT_SEA, hour), true);
            Check.due("COMING, at " + hour, x.hasWater(HarborTides.COMING, hour), false);
            Check.due("MOORED, at " + hour, x.hasWater(HarborTides.MOORED, hour), true);
            Check.due("GOING, at " + hour, x.hasWater(HarborTides.GOING, hour), false);
            Check.due("GONE, at " + hour, x.hasWater(HarborTides.GONE, hour), false);
        }
    }

    private static void theFirstListedIsThrown() {
        HarborTides x = Ports.ofEachState();
        Check.noSuch(x, "hasWater(-1, -1)", () -> x.hasWater(-1, -1));
        Check.noSuch(x, "hasWater(5, 3001)", () -> x.hasWater(5, 3001));
        for (int ship = 0; ship < 5; ship++) {
            int one = ship;
            Check.outOfRange(x, "hasWater(" + one + ", -1), in state " + one, () -> x.hasWater(one, -1));
            Check.outOfRange(x, "hasWater(" + one + ", 3001), in state " + one, () -> x.hasWater(one, 3001));
        }
    }
}
