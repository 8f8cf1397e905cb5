/** Promises 7, 8 and 11: order, cancel and queue, at their edges. */
public final class OrderEdgesTest {
    public static void main(String[] args) {
        orderForTheHourAboveNow();
        orderForTheLastHour();
        orderInTheLastHours();
        orderOfTheFirstAndTheLastShip();
        noOrderYetAndThirtyOfThem();
        orderInEachState();
        aShipHasOneOrder();
        orderAgainBehindEachEnd();
        orderThrowsTheFirstListed();
        comesInOrGoesOut();
        cancelOfTheFirstAndTheLastShip();
        cancelInEachState();
        cancelWhileItWaits();
        cancelInTheHourOfFailure();
        cancelBehindEachEnd();
        cancelOfTheOnlyAndOfManyOrders();
        queueOfTheFirstAndTheLastShip();
        queueOfTheOnlyOrder();
        queueByContract();
        queueByHour();
        queueByShip();
        queueOfOrdersDueAndNotDue();
        queueClosesUp();
        Check.end();
    }

    // Promise 7: "the hour, above now".
    private static void orderForTheHourAboveNow() {
        for (int now : new int[] {0, 1, 11, 2998}) {
            HarborTides x = Ports.at(now);
            x.ship(1, 20, 0, 0);
            for (int hour : new int[] {Integer.MIN_VALUE, -1, 0, now - 1, now}) {
                Check.outOfRange(x, "order(0, " + hour + ") at " + now, () -> x.order(0, hour));
            }
            Check.due("order(0, ..), 1 above " + now, x.order(0, now + 1), 1);
            Check.due("pass(1)", x.pass(1), 1);
        }
    }

    // Promise 7: "the hour, .. to 3000".
    private static void orderForTheLastHour() {
        HarborTides x = new HarborTides();
        x.ship(1, 20, 0, 0);
        for (int hour : new int[] {3001, 3002, 3100, Integer.MAX_VALUE}) {
            Check.outOfRange(x, "order(0, " + hour + ")", () -> x.order(0, hour));
        }
        Check.due("order(0, 3000)", x.order(0, 3000), 1);
        Check.due("cancel(0)", x.cancel(0), 3000);
        Check.due("order(0, 2999)", x.order(0, 2999), 1);
        Check.due("the hours to 2998", Ports.pass(x, 2998), 0);
        Check.due("pass(1) to 2999", x.pass(1), 1);
    }

    private static void orderInTheLastHours() {
        HarborTides x = Ports.at(2999);
        Ports.ships(x, 1, 2);
        Check.outOfRange(x, "order(0, 2999) at 2999", () -> x.order(0, 2999));
        Check.outOfRange(x, "order(0, 3001) at 2999", () -> x.order(0, 3001));
        Check.due("order(0, 3000) at 2999", x.order(0, 3000), 1);
        Check.due("pass(1) to 3000", x.pass(1), 1);
        for (int hour : new int[] {2999, 3000, 3001}) {
            Check.outOfRange(x, "order(1, " + hour + ") at 3000", () -> x.order(1, hour));
        }
    }

    private static void orderOfTheFirstAndTheLastShip() {
        HarborTides x = new HarborTides();
        Ports.ships(x, 1, 30);
        for (int ship : new int[] {Integer.MIN_VALUE, -1, 30, Integer.MAX_VALUE}) {
            Check.noSuch(x, "order(" + ship + ", 1)", () -> x.order(ship, 1));
        }
        Check.due("order(29, 1)", x.order(29, 1), 1);
        Check.due("order(0, 1)", x.order(0, 1), 2);
    }

    // Promise 7: "Returns how many orders there are then."
    private static void noOrderYetAndThirtyOfThem() {
        HarborTides x = new HarborTides();
        Ports.ships(x, 1, 30);
        for (int k = 29; k >= 0; k--) {
            Check.due("order(" + k + ", 3000)", x.order(k, 3000), 30 - k);
        }
        for (int k = 0; k < 30; k++) {
            Check.due("queue(" + k + ")", x.queue(k), k);
        }
        Check.due("cancel(7)", x.cancel(7), 3000);
        Check.due("order(7, 5), the thirtieth again", x.order(7, 5), 30);
        Check.due("pass(5)", x.pass(5), 1);
        Check.refused(x, "order(7, 6), COMING", () -> x.order(7, 6));
        x.pass(2);
        Check.due("order(7, 8), MOORED", x.order(7, 8), 30);
    }

    // "A ship that is AT_SEA or MOORED may order".
    private static void orderInEachState() {
        HarborTides x = Ports.ofEachState();
        for (int hour : new int[] {9, 10, 3000}) {
            Check.refused(x, "order(COMING, " + hour + ")", () -> x.order(HarborTides.COMING, hour));
            Check.refused(x, "order(GOING, " + hour + ")", () -> x.order(HarborTides.GOING, hour));
            Check.refused(x, "order(GONE, " + hour + ")", () -> x.order(HarborTides.GONE, hour));
        }
        Check.due("order(AT_SEA, 9)", x.order(HarborTides.AT_SEA, 9), 1);
        Check.due("order(MOORED, 9)", x.order(HarborTides.MOORED, 9), 2);
    }

    // Promise 7: "IllegalStateException if it .. has an order", be it due or not.
    private static void aShipHasOneOrder() {
        HarborTides x = new HarborTides();
        x.ship(1, 20, 1, 0);
        x.ship(1, 20, 0, 0);
        x.order(0, 1);
        x.order(1, 2);
        Check.refused(x, "order(1, 3), with one not due", () -> x.order(1, 3));
        Check.refused(x, "order(1, 2), the same", () -> x.order(1, 2));
        x.pass(4);
        Check.refused(x, "order(1, 5), with one that waits", () -> x.order(1, 5));
        Check.refused(x, "order(1, 3000), with one that waits", () -> x.order(1, 3000));
        x.order(0, 100);
        Check.refused(x, "order(0, 101), MOORED with one", () -> x.order(0, 101));
        x.pass(1);
        Check.due("claims(1)", x.claims(1), 1);
        Check.due("order(1, 6), behind one that failed", x.order(1, 6), 2);
    }

    private static void orderAgainBehindEachEnd() {
        HarborTides x = new HarborTides();
        x.table(2, 0);
        x.ship(1, 30, 3, 0);
        x.ship(1, 30, 0, 0);
        x.order(0, 2);
        x.pass(2);
        Check.due("lost(0)", x.lost(0), 1);
        Check.due("order(0, 3), in the hour of a tide lost", x.order(0, 3), 1);
        Check.due("cancel(0)", x.cancel(0), 3);
        Check.due("order(0, 3), behind one taken back", x.order(0, 3), 1);
        x.order(1, 3);
        x.pass(3);
        Check.due("order(0, 6), in the hour of mooring", x.order(0, 6), 2);
        x.cancel(0);
        x.pass(1);
        Check.due("claims(1)", x.claims(1), 1);
        Check.due("order(1, 7), in the hour of failing", x.order(1, 7), 1);
    }

    private static void orderThrowsTheFirstListed() {
        HarborTides x = Ports.ofEachState();
        Check.noSuch(x, "order(-1, 8)", () -> x.order(-1, 8));
        Check.noSuch(x, "order(5, 3001)", () -> x.order(5, 3001));
        x.order(HarborTides.AT_SEA, 20);
        x.order(HarborTides.MOORED, 20);
        for (int ship = 0; ship < 5; ship++) {
            int one = ship;
            Check.outOfRange(x, "order(" + one + ", 8), now", () -> x.order(one, 8));
            Check.outOfRange(x, "order(" + one + ", 3001)", () -> x.order(one, 3001));
            Check.refused(x, "order(" + one + ", 9)", () -> x.order(one, 9));
            Check.refused(x, "order(" + one + ", 3000)", () -> x.order(one, 3000));
        }
    }

    // Promise 7: "to come in if it is AT_SEA, to go out if it is MOORED".
    private static void comesInOrGoesOut() {
        HarborTides x = new HarborTides();
        x.ship(1, 20, 0, 0);
        x.order(0, 1);
        x.pass(1);
        Check.due("state(0) at 1", x.state(0), HarborTides.COMING);
        x.pass(2);
        Check.due("order(0, 4) in the first hour of MOORED", x.order(0, 4), 1);
        x.pass(1);
        Check.due("state(0) at 4", x.state(0), HarborTides.GOING);
    }

    private static void cancelOfTheFirstAndTheLastShip() {
        HarborTides x = new HarborTides();
        Ports.ships(x, 1, 30);
        x.order(0, 1);
        x.order(29, 3000);
        for (int ship : new int[] {Integer.MIN_VALUE, -1, 30, Integer.MAX_VALUE}) {
            Check.noSuch(x, "cancel(" + ship + ")", () -> x.cancel(ship));
        }
        Check.due("cancel(0)", x.cancel(0), 1);
        Check.due("cancel(29)", x.cancel(29), 3000);
    }

    // Promise 8: "IllegalStateException if it has none".
    private static void cancelInEachState() {
        HarborTides x = Ports.ofEachState();
        for (int ship = 0; ship < 5; ship++) {
            int one = ship;
            Check.refused(x, "cancel(" + one + ") without an order", () -> x.cancel(one));
        }
        x.order(HarborTides.AT_SEA, 9);
        x.order(HarborTides.MOORED, 10);
        Check.due("cancel(MOORED)", x.cancel(HarborTides.MOORED), 10);
        Check.due("cancel(AT_SEA)", x.cancel(HarborTides.AT_SEA), 9);
    }

    // An order that waits may be taken back, as long as it is not FAILED: then there is no claim.
    private static void cancelWhileItWaits() {
        for (int late = 0; late < 3; late++) {
            HarborTides x = new HarborTides();
            x.ship(1, 20, 1, 0);
            x.ship(1, 20, 0, 0);
            x.order(0, 1);
            x.order(1, 2);
            x.pass(2 + late);
            Check.due("cancel(1), " + late + " hours late", x.cancel(1), 2);
            x.pass(10);
            Check.due("claims(1)", x.claims(1), 0);
            Check.due("paid(1)", x.paid(1), 0);
        }
    }

    private static void cancelInTheHourOfFailure() {
        HarborTides x = new HarborTides();
        x.ship(1, 20, 1, 0);
        x.ship(1, 20, 0, 0);
        x.order(0, 1);
        x.order(1, 2);
        x.pass(5);
        Check.refused(x, "cancel(1), 3 hours late", () -> x.cancel(1));
        Check.due("claims(1)", x.claims(1), 1);
    }

    private static void cancelBehindEachEnd() {
        HarborTides x = new HarborTides();
        x.ship(1, 20, 0, 0);
        x.ship(1, 150, 0, 1);
        x.order(0, 1);
        x.order(1, 1);
        x.pass(1);
        Check.refused(x, "cancel(0), done", () -> x.cancel(0));
        Check.refused(x, "cancel(1), lost", () -> x.cancel(1));
        x.order(1, 2);
        x.cancel(1);
        Check.refused(x, "cancel(1), taken back", () -> x.cancel(1));
        x.pass(1);
        Check.due("lost(1), not for what was taken back", x.lost(1), 1);
    }

    private static void cancelOfTheOnlyAndOfManyOrders() {
        HarborTides x = new HarborTides();
        Ports.ships(x, 1, 30);
        for (int k = 0; k < 30; k++) {
            x.order(k, 10 + k);
        }
        for (int k : new int[] {29, 0, 15}) {
            Check.due("cancel(" + k + ")", x.cancel(k), 10 + k);
            Check.due("queue(" + k + ")", x.queue(k), HarborTides.NONE);
        }
        Check.due("queue(1)", x.queue(1), 0);
        Check.due("queue(14)", x.queue(14), 13);
        Check.due("queue(16)", x.queue(16), 14);
        Check.due("queue(28)", x.queue(28), 26);
        for (int k = 0; k < 30; k++) {
            if (x.queue(k) != HarborTides.NONE) {
                Check.due("queue(" + k + "), the first", x.queue(k), 0);
                x.cancel(k);
            }
        }
        Check.due("order(3, 5), the only one", x.order(3, 5), 1);
    }

    private static void queueOfTheFirstAndTheLastShip() {
        HarborTides x = new HarborTides();
        Ports.ships(x, 1, 30);
        Check.due("queue(0), no order", x.queue(0), HarborTides.NONE);
        Check.due("queue(29), no order", x.queue(29), HarborTides.NONE);
        x.order(29, 1);
        x.order(0, 1);
        Check.due("queue(0)", x.queue(0), 0);
        Check.due("queue(29)", x.queue(29), 1);
        Check.due("queue(1), no order", x.queue(1), HarborTides.NONE);
        for (int ship : new int[] {Integer.MIN_VALUE, -1, 30, Integer.MAX_VALUE}) {
            Check.noSuch(x, "queue(" + ship + ")", () -> x.queue(ship));
        }
    }

    // Promise 11: "0 for the first one; NONE if it has none."
    private static void queueOfTheOnlyOrder() {
        HarborTides x = Ports.ofEachState();
        for (int ship = 0; ship < 5; ship++) {
            Check.due("queue(" + ship + "), no order", x.queue(ship), HarborTides.NONE);
        }
        x.order(HarborTides.MOORED, 9);
        Check.due("queue(MOORED)", x.queue(HarborTides.MOORED), 0);
        Check.due("queue(AT_SEA)", x.queue(HarborTides.AT_SEA), HarborTides.NONE);
        x.cancel(HarborTides.MOORED);
        Check.due("queue(MOORED), taken back", x.queue(HarborTides.MOORED), HarborTides.NONE);
    }

    // "those of ships with a greater contract first", were they of the last hour and the last ship.
    private static void queueByContract() {
        HarborTides x = new HarborTides();
        for (int contract = 0; contract < 4; contract++) {
            x.ship(1, 20, contract, 0);
            x.order(contract, contract == 0 ? 1 : 1000 * contract - 1);
        }
        for (int contract = 0; contract < 4; contract++) {
            Check.due("queue(" + contract + ")", x.queue(contract), 3 - contract);
        }
    }

    // "of the same one those for an earlier hour", were they of the last ship.
    private static void queueByHour() {
        HarborTides x = new HarborTides();
        for (int ship = 0; ship < 4; ship++) {
            x.ship(1, 20, 2, 0);
            x.order(ship, 10 - ship);
        }
        for (int ship = 0; ship < 4; ship++) {
            Check.due("queue(" + ship + ")", x.queue(ship), 3 - ship);
        }
    }

    // "of the same hour those of lower ships", whoever ordered first.
    private static void queueByShip() {
        HarborTides x = new HarborTides();
        for (int ship = 0; ship < 4; ship++) {
            x.ship(1, 20, 2, 0);
        }
        for (int ship : new int[] {2, 3, 0, 1}) {
            x.order(ship, 10);
        }
        for (int ship = 0; ship < 4; ship++) {
            Check.due("queue(" + ship + ")", x.queue(ship), ship);
        }
    }

    // "in the order in which they are looked at when all are due": also when some are and some are not.
    private static void queueOfOrdersDueAndNotDue() {
        HarborTides x = new HarborTides();
        x.ship(1, 20, 1, 0);
        x.ship(1, 20, 1, 0);
        x.ship(1, 20, 0, 0);
        x.ship(1, 20, 2, 0);
        x.order(0, 1);
        x.order(1, 1);
        x.order(2, 1);
        x.pass(1);
        x.order(3, 3000);
        Check.due("queue(0), done", x.queue(0), HarborTides.NONE);
        Check.due("queue(1), waiting", x.queue(1), 1);
        Check.due("queue(2), waiting", x.queue(2), 2);
        Check.due("queue(3), for the last hour, of a greater contract", x.queue(3), 0);
    }

    private static void queueClosesUp() {
        HarborTides x = new HarborTides();
        for (int ship = 0; ship < 5; ship++) {
            x.ship(1, ship == 2 ? 150 : 20, 0, ship);
            x.order(ship, ship == 4 ? 3 : 2);
        }
        Check.due("cancel(1)", x.cancel(1), 2);
        Check.due("queue(2)", x.queue(2), 1);
        Check.due("pass(2): 0 and 3 are done, 2 is lost", x.pass(2), 2);
        Check.due("queue(4)", x.queue(4), 0);
        for (int ship = 0; ship < 4; ship++) {
            Check.due("queue(" + ship + ")", x.queue(ship), HarborTides.NONE);
        }
    }
}
