/** Promise 12 and the sentences of "Orders and moves" and "Each hour", at their edges. */
public final class HourEdgesTest {
    public static void main(String[] args) {
        oneHourAndAHundred();
        passToTheLastHour();
        passThrowsTheFirstListed();
        passReturnsItsOwnMovesAlone();
        hoursPassOneByOne();
        theHourAheadAndTheHourOfAnOrder();
        ordersOfTheFirstAndTheLastHour();
        lostByOneDecimetreOverTheBar();
        lostByOneDecimetreAtTheBerth();
        lostToGoOut();
        lostInItsVeryHourAlone();
        lostIsPaidToTheFirstTwoPlaces();
        lostIsPaidToPilotsAtRestToo();
        lostIsOneTideForEachOrder();
        doneUpToThreeHoursLate();
        waterUpToThreeHoursLate();
        doneWhenTheBerthIsFreeInThatHour();
        theOnlyPilotWhoIsReady();
        noPilotIsReady();
        asManyTugsAsItsSize();
        whatTheOrderAheadHasTaken();
        fewerThan100Moves();
        lostBehind100Moves();
        failedThreeHoursAgo();
        failedInTheLastHour();
        whatAMovePays();
        duesOfEachState();
        duesFromTheHourOfMooring();
        duesToTheHourOfGoing();
        duesOfEachSize();
        lookedAtByContractThenHourThenShip();
        Check.end();
    }

    // Promise 12: "hours: 1 to 100".
    private static void oneHourAndAHundred() {
        HarborTides x = new HarborTides();
        x.ship(1, 20, 0, 0);
        x.ship(1, 20, 0, 1);
        x.ship(1, 20, 0, 2);
        x.order(0, 1);
        x.order(1, 101);
        x.order(2, 102);
        for (int hours : new int[] {Integer.MIN_VALUE, -1, 0, 101, Integer.MAX_VALUE}) {
            Check.outOfRange(x, "pass(" + hours + ")", () -> x.pass(hours));
        }
        Check.due("pass(1)", x.pass(1), 1);
        Check.due("pass(100) to 101", x.pass(100), 1);
        Check.due("state(1)", x.state(1), HarborTides.COMING);
        Check.due("state(2)", x.state(2), HarborTides.AT_SEA);
        Check.due("pass(1) to 102", x.pass(1), 1);
    }

    // "Now is the hour 0 at first, at most 3000."
    private static void passToTheLastHour() {
        HarborTides x = Ports.at(2900);
        Check.due("pass(100) to 3000", x.pass(100), 0);
        HarborTides y = Ports.at(2901);
        Check.refused(y, "pass(100) to 3001", () -> y.pass(100));
        Check.due("pass(99) to 3000", y.pass(99), 0);
        HarborTides z = Ports.at(2999);
        for (int hours : new int[] {2, 3, 99, 100}) {
            Check.refused(z, "pass(" + hours + ") at 2999", () -> z.pass(hours));
        }
        Check.due("pass(1) to 3000", z.pass(1), 0);
        for (int hours : new int[] {1, 2, 100}) {
            Check.refused(z, "pass(" + hours + ") at 3000", () -> z.pass(hours));
        }
    }

    private static void passThrowsTheFirstListed() {
        for (int now : new int[] {2900, 2999, 3000}) {
            HarborTides x = Ports.at(now);
            for (int hours : new int[] {Integer.MIN_VALUE, -1, 0, 101, 200, Integer.MAX_VALUE - 3000, Integer.MAX_VALUE}) {
                Check.outOfRange(x, "pass(" + hours + ") at " + now, () -> x.pass(hours));
            }
        }
    }

    // Promise 12: "Returns how many moves begin by that": no tide lost, no order failed, no move of other calls.
    private static void passReturnsItsOwnMovesAlone() {
        HarborTides x = new HarborTides();
        x.ship(1, 20, 1, 0);
        x.ship(1, 150, 0, 1);
        x.ship(1, 20, 0, 0);
        x.ship(1, 20, 0, 2);
        for (int ship = 0; ship < 3; ship++) {
            x.order(ship, 2);
        }
        x.order(3, 9);
        Check.due("pass(1), nothing due", x.pass(1), 0);
        Check.due("pass(1), one done, one lost, one waiting", x.pass(1), 1);
        Check.due("pass(3), one failed", x.pass(3), 0);
        Check.due("lost(1)", x.lost(1), 1);
        Check.due("claims(2)", x.claims(2), 1);
        x.order(0, 9);
        Check.due("pass(4), one out and one in", x.pass(4), 2);
        Check.due("pass(100), with no order left", x.pass(100), 0);
        Check.due("moves()", x.moves(), 3);
    }

    private static HarborTides busyPort() {
        HarborTides x = new HarborTides();
        x.table(4, 10);
        x.table(9, 30);
        x.wind(30, 40, -17);
        for (int k = 0; k < 30; k++) {
            x.ship(1 + k % 4, 15 + 2 * k, k % 3 + k % 2, k % 6);
            x.order(k, 2 + 3 * k);
        }
        return x;
    }

    // Promise 12: "Lets hours pass, one by one."
    private static void hoursPassOneByOne() {
        HarborTides x = busyPort();
        int begun = 0;
        for (int hour = 1; hour <= 100; hour++) {
            begun += x.pass(1);
        }
        HarborTides y = busyPort();
        Check.due("pass(100) of as many moves as 100 times pass(1)", y.pass(100), begun);
        Check.due("some moves began", begun > 5, true);
        Check.due("both ports hold the same", Inside.all(y).equals(Inside.all(x)), true);
        HarborTides z = busyPort();
        z.pass(37);
        z.pass(63);
        Check.due("so does one of 37 and 63 hours", Inside.all(z).equals(Inside.all(x)), true);
    }

    // "When that hour has come, the order is due."
    private static void theHourAheadAndTheHourOfAnOrder() {
        HarborTides x = new HarborTides();
        Ports.ships(x, 1, 2);
        x.order(0, 12);
        x.order(1, 13);
        Check.due("pass(11), an hour ahead", x.pass(11), 0);
        Check.due("queue(0)", x.queue(0), 0);
        Check.due("pass(1), in its hour", x.pass(1), 1);
        Check.due("move(0)", x.move(0), 120000);
        Check.due("queue(1), an hour ahead", x.queue(1), 0);
        Check.due("pass(1), in its hour", x.pass(1), 1);
        Check.due("move(1)", x.move(1), 130110);
    }

    private static void ordersOfTheFirstAndTheLastHour() {
        HarborTides x = new HarborTides();
        Ports.ships(x, 1, 2);
        x.order(0, 1);
        x.order(1, 3000);
        Check.due("pass(1)", x.pass(1), 1);
        Check.due("the hours to 2999", Ports.pass(x, 2998), 0);
        Check.due("pass(1) to 3000", x.pass(1), 1);
        Check.due("move(1)", x.move(1), 30000110);
    }

    private static void lostByOneDecimetreOverTheBar() {
        for (int draught : new int[] {74, 75, 76}) {
            HarborTides x = new HarborTides();
            x.ship(1, draught, 0, 0);
            x.order(0, 3);
            Check.due("pass(3), draught " + draught + " over a bar of 80", x.pass(3), draught <= 75 ? 1 : 0);
            Check.due("lost(0), draught " + draught, x.lost(0), draught <= 75 ? 0 : 1);
            Check.due("claims(0)", x.claims(0), 0);
            Check.due("queue(0)", x.queue(0), HarborTides.NONE);
        }
    }

    private static void lostByOneDecimetreAtTheBerth() {
        for (int berth : new int[] {29, 30, 31}) {
            HarborTides x = new HarborTides();
            x.berth(0, berth);
            x.ship(1, 75, 0, 0);
            x.order(0, 3);
            Check.due("pass(3), draught 75 at a berth of 50 and " + berth, x.pass(3), berth >= 30 ? 1 : 0);
            Check.due("lost(0), berth " + berth, x.lost(0), berth >= 30 ? 0 : 1);
        }
    }

    // Surges told for the hour of going and the next: by one decimetre more the ship goes.
    private static void lostToGoOut() {
        for (int surge : new int[] {-31, -30}) {
            HarborTides x = new HarborTides();
            x.ship(1, 75, 0, 0);
            x.order(0, 1);
            x.wind(5, 1, surge);
            x.pass(3);
            x.order(0, 5);
            Check.due("pass(2), berth of 110 and " + surge, x.pass(2), surge == -30 ? 1 : 0);
            Check.due("lost(0)", x.lost(0), surge == -30 ? 0 : 1);
            Check.due("state(0)", x.state(0), surge == -30 ? HarborTides.GOING : HarborTides.MOORED);
        }
        for (int surge : new int[] {-1, 0}) {
            HarborTides x = new HarborTides();
            x.ship(1, 75, 0, 0);
            x.order(0, 1);
            x.wind(6, 1, surge);
            x.pass(3);
            x.order(0, 5);
            Check.due("pass(2), bar of 80 and " + surge + " at 6", x.pass(2), surge == 0 ? 1 : 0);
            Check.due("lost(0)", x.lost(0), surge == 0 ? 0 : 1);
        }
    }

    // "due at the very hour for which it is, and whose ship has no water then": without water later it waits.
    private static void lostInItsVeryHourAlone() {
        for (int hour = 2; hour <= 6; hour++) {
            HarborTides x = new HarborTides();
            x.table(5, 0);
            x.ship(1, 30, 1, 0);
            x.ship(1, 30, 0, 0);
            x.order(0, 1);
            x.order(1, hour);
            x.pass(5);
            Check.due("lost(1) at 5, for " + hour, x.lost(1), hour == 5 ? 1 : 0);
            Check.due("claims(1) at 5, for " + hour, x.claims(1), hour == 2 ? 1 : 0);
            Check.due("queue(1) at 5, for " + hour, x.queue(1), hour == 2 || hour == 5 ? HarborTides.NONE : 0);
        }
    }

    // "the ship pays 50 to each of the first two pilots of the rota", who stay where they are.
    private static void lostIsPaidToTheFirstTwoPlaces() {
        HarborTides x = new HarborTides();
        x.swap(0, 5);
        x.swap(1, 4);
        x.ship(4, 150, 3, 0);
        x.order(0, 1);
        x.pass(1);
        for (int pilot = 0; pilot < 6; pilot++) {
            Check.due("earned(" + pilot + ")", x.earned(pilot), pilot >= 4 ? 50 : 0);
        }
        Check.due("rota(0)", x.rota(0), 5);
        Check.due("rota(1)", x.rota(1), 4);
        Check.due("isReady(5)", x.isReady(5), true);
        Check.due("paid(0), whatever its size", x.paid(0), 100);
        Check.due("tugPay()", x.tugPay(), 0);
        Check.due("port()", x.port(), 0);
    }

    private static void lostIsPaidToPilotsAtRestToo() {
        HarborTides x = new HarborTides();
        Ports.ships(x, 1, 2);
        x.ship(1, 150, 0, 0);
        x.order(0, 1);
        x.order(1, 1);
        x.pass(1);
        x.swap(0, 2);
        x.swap(1, 3);
        x.order(2, 2);
        x.pass(1);
        Check.due("isReady(0)", x.isReady(0), false);
        Check.due("isReady(1)", x.isReady(1), false);
        Check.due("rota(0)", x.rota(0), 0);
        Check.due("rota(1)", x.rota(1), 1);
        Check.due("earned(0)", x.earned(0), 100);
        Check.due("earned(1)", x.earned(1), 100);
        Check.due("lost(2)", x.lost(2), 1);
    }

    private static void lostIsOneTideForEachOrder() {
        HarborTides x = new HarborTides();
        x.ship(1, 150, 0, 0);
        for (int tide = 1; tide <= 20; tide++) {
            x.order(0, tide);
            x.pass(1);
            Check.due("lost(0)", x.lost(0), tide);
            Check.due("paid(0)", x.paid(0), 100 * tide);
        }
        x.pass(100);
        Check.due("lost(0), without an order", x.lost(0), 20);
    }

    // The berth is free at 12: an order for 9, 3 hours ago, is done then, one for 8 has failed at 11.
    private static void doneUpToThreeHoursLate() {
        for (int hour = 7; hour <= 14; hour++) {
            HarborTides x = new HarborTides();
            x.ship(1, 20, 0, 0);
            x.ship(1, 20, 0, 0);
            x.order(0, 1);
            x.pass(3);
            x.order(0, 10);
            x.order(1, hour);
            Check.due("pass(8) to 11, the ship goes out", x.pass(8), 1);
            Check.due("claims(1) at 11, order for " + hour, x.claims(1), hour <= 8 ? 1 : 0);
            Check.due("pass(1) to 12, order for " + hour, x.pass(1), hour >= 9 && hour <= 12 ? 1 : 0);
            x.pass(10);
            Check.due("claims(1) at 22, order for " + hour, x.claims(1), hour <= 8 ? 1 : 0);
            Check.due("state(1) at 22, order for " + hour, x.state(1), hour <= 8 ? HarborTides.AT_SEA : HarborTides.MOORED);
        }
    }

    // All tugs are taken from 3 to 5, and it is dry for some hours from 5 on: an order for 4 has its last look at 7.
    private static void waterUpToThreeHoursLate() {
        for (int dry = 0; dry <= 4; dry++) {
            HarborTides x = new HarborTides();
            for (int hour = 5; hour < 5 + dry; hour++) {
                x.table(hour, 0);
            }
            x.ship(4, 30, 1, 0);
            x.ship(1, 30, 0, 1);
            x.order(0, 3);
            x.order(1, 4);
            x.pass(5);
            Check.due("state(1) at 5", x.state(1), HarborTides.AT_SEA);
            x.pass(1);
            Check.due("state(1) at 6, dry for " + dry, x.state(1), dry <= 1 ? HarborTides.COMING : HarborTides.AT_SEA);
            x.pass(1);
            Check.due("state(1) at 7, dry for " + dry, x.state(1), dry <= 2 ? HarborTides.COMING : HarborTides.AT_SEA);
            Check.due("claims(1) at 7, dry for " + dry, x.claims(1), dry <= 2 ? 0 : 1);
            Check.due("lost(1)", x.lost(1), 0);
        }
    }

    // The ship ahead is GONE by the first step of the hour, so the third one finds its berth free.
    private static void doneWhenTheBerthIsFreeInThatHour() {
        HarborTides x = new HarborTides();
        x.ship(1, 20, 0, 2);
        x.ship(1, 20, 3, 2);
        x.order(0, 1);
        x.pass(3);
        x.order(0, 4);
        x.order(1, 5);
        Check.due("pass(2) to 5, GOING", x.pass(2), 1);
        Check.due("queue(1)", x.queue(1), 0);
        Check.due("pass(1) to 6, GONE", x.pass(1), 1);
        Check.due("state(0)", x.state(0), HarborTides.GONE);
        Check.due("state(1)", x.state(1), HarborTides.COMING);
        Check.due("isSound(2)", x.isSound(2), true);
    }

    /** A port at 4 where the pilots 0 to 4 have begun moves at 1 and 4; the ship 5 has no order. */
    private static HarborTides onePilotLeft() {
        HarborTides x = new HarborTides();
        Ports.ships(x, 1, 6);
        for (int ship = 0; ship < 5; ship++) {
            x.order(ship, ship < 4 ? 1 : 4);
        }
        Check.due("pass(4)", x.pass(4), 5);
        return x;
    }

    // "the first pilot of the rota who is ready is taken", from whichever place, "who becomes the last one of it".
    private static void theOnlyPilotWhoIsReady() {
        for (int place = 0; place < 6; place++) {
            HarborTides x = onePilotLeft();
            if (x.rota(place) != 5) {
                x.swap(5, x.rota(place));
            }
            int[] others = new int[6];
            for (int k = 0; k < 6; k++) {
                others[k] = x.rota(k);
            }
            x.order(5, 5);
            Check.due("pass(1), the only one ready at place " + place, x.pass(1), 1);
            Check.due("move(5)", x.move(5), 50550);
            Check.due("rota(5)", x.rota(5), 5);
            for (int k = 0; k < 5; k++) {
                Check.due("rota(" + k + ")", x.rota(k), others[k < place ? k : k + 1]);
            }
        }
    }

    // The pilots of 1 are ready again at 7, no other one ahead of that.
    private static void noPilotIsReady() {
        HarborTides x = onePilotLeft();
        x.order(5, 5);
        x.order(0, 5);
        Check.due("pass(1) to 5, the last pilot ready", x.pass(1), 1);
        Check.due("move(5)", x.move(5), 50051);
        Check.due("pass(1) to 6, none ready", x.pass(1), 0);
        Check.due("queue(5)", x.queue(5), 0);
        Check.due("pass(1) to 7", x.pass(1), 1);
        Check.due("move(6)", x.move(6), 70500);
    }

    // "as many tugs as its size are ready": four are on duty.
    private static void asManyTugsAsItsSize() {
        for (int first = 1; first <= 4; first++) {
            for (int second = 1; second <= 4; second++) {
                String sizes = "sizes " + first + " and " + second;
                HarborTides x = new HarborTides();
                x.ship(first, 20, 0, 0);
                x.ship(second, 20, 0, 1);
                x.order(0, 1);
                x.order(1, 1);
                Check.due("pass(1), " + sizes, x.pass(1), first + second <= 4 ? 2 : 1);
                Check.due("pass(2), " + sizes, x.pass(2), 0);
                Check.due("pass(1) to 4, " + sizes, x.pass(1), first + second <= 4 ? 0 : 1);
                Check.due("tugPay(), " + sizes, x.tugPay(), 30 * (first + second));
                Check.due("claims(1), " + sizes, x.claims(1), 0);
            }
        }
    }

    // Berth, tugs and pilot that an order ahead took in the same hour are away for the next one.
    private static void whatTheOrderAheadHasTaken() {
        HarborTides x = new HarborTides();
        x.ship(3, 20, 3, 0);
        x.ship(1, 20, 2, 0);
        x.ship(2, 20, 1, 1);
        x.ship(1, 20, 0, 2);
        for (int ship = 0; ship < 4; ship++) {
            x.order(ship, 1);
        }
        Check.due("pass(1)", x.pass(1), 2);
        Check.due("move(0)", x.move(0), 10000);
        Check.due("move(1): 1 wants a berth, 2 a tug", x.move(1), 10310);
        Check.due("queue(1)", x.queue(1), 0);
        Check.due("queue(2)", x.queue(2), 1);
        Check.due("tugs()", x.tugs(), 0);
    }

    /**
     * A port at 40 that holds a number of moves of its ship 0. Thirty ships can begin no more than 60 moves, so
     * only a hand inside the object gets it to the limit of 100.
     */
    private static HarborTides withMoves(int moves) {
        HarborTides x = new HarborTides();
        Ports.ships(x, 1, 3);
        x.order(0, 1);
        x.pass(40);
        for (int k = 1; k < moves; k++) {
            Inside.moves(x).add(Inside.moves(x).get(0));
        }
        Check.due("moves()", x.moves(), moves);
        return x;
    }

    // "fewer than 100 moves have begun".
    private static void fewerThan100Moves() {
        HarborTides x = withMoves(98);
        x.order(0, 41);
        x.order(1, 41);
        x.order(2, 41);
        Check.due("pass(1), with 98 moves", x.pass(1), 2);
        Check.due("moves()", x.moves(), 100);
        Check.due("move(98)", x.move(98), 410000 + 10 + 1);
        Check.due("move(99)", x.move(99), 410000 + 100 + 20);
        Check.noSuch(x, "move(100)", () -> x.move(100));
        Check.noSuch(x, "isSound(100)", () -> x.isSound(100));
        Check.due("queue(2)", x.queue(2), 0);
        Check.due("pass(2)", x.pass(2), 0);
        Check.due("claims(2), 2 hours ago", x.claims(2), 0);
        Check.due("pass(1)", x.pass(1), 0);
        Check.due("claims(2), 3 hours ago", x.claims(2), 1);
        Check.due("paid(2)", x.paid(2), 0);
    }

    private static void lostBehind100Moves() {
        HarborTides x = withMoves(100);
        x.wind(43, 1, -40);
        x.wind(44, 1, -40);
        x.ship(1, 75, 0, 4);
        x.order(3, 43);
        x.order(1, 43);
        x.pass(3);
        Check.due("lost(3)", x.lost(3), 1);
        Check.due("lost(1), with water and no move", x.lost(1), 0);
        Check.due("moves()", x.moves(), 100);
    }

    // "An order that is not done, for an hour 3 hours ago, is FAILED, and gone: .. one claim more".
    private static void failedThreeHoursAgo() {
        HarborTides x = new HarborTides();
        x.ship(1, 20, 0, 0);
        x.ship(3, 20, 0, 0);
        x.order(0, 1);
        x.order(1, 10);
        x.pass(9);
        for (int hour = 10; hour <= 14; hour++) {
            x.pass(1);
            Check.due("claims(1) at " + hour, x.claims(1), hour >= 13 ? 1 : 0);
            Check.due("queue(1) at " + hour, x.queue(1), hour >= 13 ? HarborTides.NONE : 0);
            Check.due("state(1) at " + hour, x.state(1), HarborTides.AT_SEA);
            Check.due("paid(1) at " + hour, x.paid(1), 0);
            Check.due("lost(1) at " + hour, x.lost(1), 0);
        }
        Check.due("claims(0)", x.claims(0), 0);
    }

    private static void failedInTheLastHour() {
        HarborTides x = Ports.at(2990);
        x.ship(1, 20, 1, 0);
        x.ship(1, 20, 0, 0);
        x.ship(1, 20, 0, 0);
        x.order(0, 2991);
        x.order(1, 2997);
        x.order(2, 2998);
        x.pass(9);
        Check.due("claims(1) at 2999", x.claims(1), 0);
        x.pass(1);
        Check.due("claims(1) at 3000, for 2997", x.claims(1), 1);
        Check.due("claims(2) at 3000, for 2998", x.claims(2), 0);
        Check.due("queue(2)", x.queue(2), 0);
        Check.due("cancel(2)", x.cancel(2), 2998);
    }

    // "it pays 50 to the pilot, 30 for each tug to the tugs, and, to come in, 100 times its size to the port".
    private static void whatAMovePays() {
        for (int size = 1; size <= 4; size++) {
            HarborTides x = new HarborTides();
            x.ship(size, 20, 0, 0);
            x.order(0, 1);
            x.pass(1);
            Check.due("paid(0), in, size " + size, x.paid(0), 50 + 130 * size);
            Check.due("earned(0)", x.earned(0), 50);
            Check.due("tugPay()", x.tugPay(), 30 * size);
            Check.due("port()", x.port(), 100 * size);
            x.pass(2);
            x.order(0, 4);
            x.pass(1);
            Check.due("paid(0), out, size " + size, x.paid(0), 100 + 160 * size + 2 * 5 * size);
            Check.due("earned(1)", x.earned(1), 50);
            Check.due("tugPay()", x.tugPay(), 60 * size);
            Check.due("port(), for going out", x.port(), 100 * size + 2 * 5 * size);
        }
    }

    // "Each ship that is MOORED pays": no other one does.
    private static void duesOfEachState() {
        HarborTides x = Ports.ofEachState();
        int[] before = new int[5];
        for (int ship = 0; ship < 5; ship++) {
            before[ship] = x.paid(ship);
        }
        int port = x.port();
        x.pass(1);
        for (int ship = 0; ship < 5; ship++) {
            Check.due("paid(" + ship + ") within an hour", x.paid(ship) - before[ship], ship == HarborTides.MOORED ? 5 : 0);
        }
        Check.due("port() within an hour", x.port() - port, 5);
    }

    // The first step is ahead of the second: the hour of mooring is paid for.
    private static void duesFromTheHourOfMooring() {
        HarborTides x = new HarborTides();
        x.ship(2, 20, 0, 0);
        x.order(0, 1);
        int[] sums = {0, 310, 310, 320, 330, 340};
        for (int hour = 1; hour < sums.length; hour++) {
            x.pass(1);
            Check.due("paid(0) at " + hour, x.paid(0), sums[hour]);
        }
        x.pass(100);
        Check.due("paid(0) at 105", x.paid(0), 340 + 1000);
    }

    // The second step is ahead of the third: the hour of going is paid for, no later one.
    private static void duesToTheHourOfGoing() {
        HarborTides x = new HarborTides();
        x.ship(2, 20, 0, 0);
        x.order(0, 1);
        x.pass(4);
        x.order(0, 6);
        int[] sums = {330, 340, 350 + 110, 460, 460, 460};
        for (int k = 0; k < sums.length; k++) {
            Check.due("paid(0) at " + (4 + k), x.paid(0), sums[k]);
            x.pass(1);
        }
        Check.due("port()", x.port(), 200 + 40);
    }

    private static void duesOfEachSize() {
        HarborTides x = new HarborTides();
        for (int size = 1; size <= 4; size++) {
            x.ship(size, 20, 0, size);
            x.order(size - 1, 4 * size - 3);
        }
        Check.due("pass(20)", x.pass(20), 4);
        int[] before = new int[4];
        for (int ship = 0; ship < 4; ship++) {
            before[ship] = x.paid(ship);
        }
        x.pass(1);
        for (int ship = 0; ship < 4; ship++) {
            Check.due("dues of the size " + (ship + 1), x.paid(ship) - before[ship], 5 * (ship + 1));
        }
    }

    // All wait for one berth, which is free at 12; the one that is due and first in the queue gets it.
    private static void lookedAtByContractThenHourThenShip() {
        int[][] contracts = {{0, 0, 0}, {0, 0, 0}, {0, 0, 1}, {2, 3, 3}, {0, 1, 3}, {3, 2, 2}};
        int[][] hours = {{11, 11, 11}, {11, 10, 11}, {9, 9, 12}, {9, 12, 11}, {10, 12, 13}, {13, 11, 10}};
        int[] firsts = {1, 2, 3, 3, 2, 3};
        for (int k = 0; k < firsts.length; k++) {
            HarborTides x = new HarborTides();
            x.ship(1, 20, 0, 0);
            x.order(0, 1);
            x.pass(3);
            x.order(0, 10);
            for (int ship = 1; ship <= 3; ship++) {
                x.ship(1, 20, contracts[k][ship - 1], 0);
            }
            for (int ship = 3; ship >= 1; ship--) {
                x.order(ship, hours[k][ship - 1]);
            }
            x.pass(8);
            Check.due("pass(1) to 12", x.pass(1), 1);
            Check.due("the ship that comes in at 12, case " + k, x.move(2) / 100 % 100, firsts[k]);
        }
    }
}
