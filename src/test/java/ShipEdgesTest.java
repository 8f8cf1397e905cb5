/** Promises 6 and 10 and the sentences of "Ships" on numbers, sizes, states and free berths, at their edges. */
public final class ShipEdgesTest {
    public static void main(String[] args) {
        firstAndLastBerth();
        leastAndGreatestSize();
        leastAndGreatestDraught();
        leastAndGreatestContract();
        thirtyShips();
        aRefusedShipIsNoShip();
        aShipMayBeAddedAtAnyHour();
        theFirstListedIsThrown();
        stateOfTheFirstAndTheLastShip();
        comingForTwoHours();
        goingForTwoHours();
        aBerthIsTakenInThreeStates();
        aBerthIsFreeInTheOtherStates();
        aBerthIsNotTakenByShipsOfOthers();
        Check.end();
    }

    // Promise 6: "berth: 0 to 5".
    private static void firstAndLastBerth() {
        HarborTides x = new HarborTides();
        for (int berth : new int[] {Integer.MIN_VALUE, -1, 6, Integer.MAX_VALUE}) {
            Check.noSuch(x, "a ship for the berth " + berth, () -> x.ship(1, 20, 0, berth));
        }
        Check.due("a ship for the berth 0", x.ship(1, 20, 0, 0), 0);
        Check.due("a ship for the berth 5", x.ship(1, 20, 0, 5), 1);
        x.order(0, 1);
        x.order(1, 1);
        Check.due("pass(1): neither takes the other's berth", x.pass(1), 2);
        Check.refused(x, "berth(0, 60)", () -> x.berth(0, 60));
        Check.refused(x, "berth(5, 60)", () -> x.berth(5, 60));
    }

    // Promise 6: "size: 1 to 4".
    private static void leastAndGreatestSize() {
        HarborTides x = new HarborTides();
        for (int size : new int[] {Integer.MIN_VALUE, -1, 0, 5, Integer.MAX_VALUE}) {
            Check.outOfRange(x, "a ship of the size " + size, () -> x.ship(size, 20, 0, 0));
        }
        Check.due("a ship of the size 1", x.ship(1, 20, 0, 0), 0);
        Check.due("a ship of the size 4", x.ship(4, 20, 0, 1), 1);
        x.order(0, 1);
        x.order(1, 4);
        Check.due("pass(4)", x.pass(4), 2);
        Check.due("paid(0): 50, 30, 100 and 5 twice", x.paid(0), 180 + 5 * 2);
        Check.due("paid(1): 50, 120 and 400", x.paid(1), 570);
    }

    // Promise 6: "draught: 10 to 150".
    private static void leastAndGreatestDraught() {
        HarborTides x = new HarborTides();
        for (int draught : new int[] {Integer.MIN_VALUE, -1, 0, 9, 151, Integer.MAX_VALUE}) {
            Check.outOfRange(x, "a ship of the draught " + draught, () -> x.ship(1, draught, 0, 0));
        }
        Check.due("a ship of the draught 10", x.ship(1, 10, 0, 0), 0);
        Check.due("a ship of the draught 150", x.ship(1, 150, 0, 0), 1);
        Check.due("hasWater(0, 1)", x.hasWater(0, 1), true);
        Check.due("hasWater(1, 1)", x.hasWater(1, 1), false);
    }

    // Promise 6: "contract: 0 to 3".
    private static void leastAndGreatestContract() {
        HarborTides x = new HarborTides();
        for (int contract : new int[] {Integer.MIN_VALUE, -1, 4, Integer.MAX_VALUE}) {
            Check.outOfRange(x, "a ship of the contract " + contract, () -> x.ship(1, 20, contract, 0));
        }
        Check.due("a ship of the contract 0", x.ship(1, 20, 0, 0), 0);
        Check.due("a ship of the contract 3", x.ship(1, 20, 3, 0), 1);
        x.order(0, 1);
        x.order(1, 1);
        Check.due("queue(0)", x.queue(0), 1);
        Check.due("queue(1)", x.queue(1), 0);
    }

    // "Ships are numbered from 0, at most 30."
    private static void thirtyShips() {
        HarborTides x = new HarborTides();
        for (int k = 0; k < 30; k++) {
            Check.due("ship " + k, x.ship(1, 20, 0, 0), k);
        }
        for (int berth = 0; berth < 6; berth++) {
            int one = berth;
            Check.refused(x, "a ship more, for the berth " + one, () -> x.ship(1, 20, 0, one));
        }
        x.order(0, 1);
        x.pass(3);
        x.order(0, 4);
        x.pass(3);
        Check.due("state(0)", x.state(0), HarborTides.GONE);
        Check.refused(x, "a ship more, when one is GONE", () -> x.ship(1, 20, 0, 0));
    }

    private static void aRefusedShipIsNoShip() {
        HarborTides x = new HarborTides();
        Check.due("the first ship", x.ship(1, 20, 0, 0), 0);
        Check.outOfRange(x, "a ship of the size 0", () -> x.ship(0, 20, 0, 0));
        Check.noSuch(x, "a ship for the berth 6", () -> x.ship(1, 20, 0, 6));
        Check.noSuch(x, "state(1)", () -> x.state(1));
        Check.due("the second ship", x.ship(1, 20, 0, 0), 1);
    }

    private static void aShipMayBeAddedAtAnyHour() {
        HarborTides x = Ports.at(3000);
        Check.due("a ship at 3000", x.ship(1, 20, 0, 0), 0);
        Check.due("state(0)", x.state(0), HarborTides.AT_SEA);
        Check.due("queue(0)", x.queue(0), HarborTides.NONE);
        Check.due("paid(0)", x.paid(0), 0);
        Check.due("lost(0)", x.lost(0), 0);
        Check.due("claims(0)", x.claims(0), 0);
    }

    private static void theFirstListedIsThrown() {
        HarborTides x = new HarborTides();
        Check.noSuch(x, "ship(0, 20, 0, 6)", () -> x.ship(0, 20, 0, 6));
        Check.noSuch(x, "ship(1, 9, 0, -1)", () -> x.ship(1, 9, 0, -1));
        Check.noSuch(x, "ship(1, 20, 4, 6)", () -> x.ship(1, 20, 4, 6));
        Check.noSuch(x, "ship(5, 151, -1, -1)", () -> x.ship(5, 151, -1, -1));
        Ports.ships(x, 1, 30);
        Check.noSuch(x, "a ship more for the berth 6", () -> x.ship(1, 20, 0, 6));
        Check.noSuch(x, "a ship more for the berth -1, of size 0", () -> x.ship(0, 20, 0, -1));
        Check.outOfRange(x, "a ship more of the size 5", () -> x.ship(5, 20, 0, 0));
        Check.outOfRange(x, "a ship more of the draught 9", () -> x.ship(1, 9, 0, 0));
        Check.outOfRange(x, "a ship more of the contract 4", () -> x.ship(1, 20, 4, 0));
    }

    private static void stateOfTheFirstAndTheLastShip() {
        HarborTides x = new HarborTides();
        Ports.ships(x, 1, 30);
        x.order(29, 1);
        x.pass(1);
        Check.due("state(0)", x.state(0), HarborTides.AT_SEA);
        Check.due("state(28)", x.state(28), HarborTides.AT_SEA);
        Check.due("state(29)", x.state(29), HarborTides.COMING);
        for (int ship : new int[] {Integer.MIN_VALUE, -1, 30, Integer.MAX_VALUE}) {
            Check.noSuch(x, "state(" + ship + ")", () -> x.state(ship));
        }
    }

    // "Ships whose move began 2 hours ago are MOORED".
    private static void comingForTwoHours() {
        HarborTides x = new HarborTides();
        x.ship(1, 20, 0, 0);
        x.order(0, 5);
        int[] states = {0, 0, 0, 0, 0, 1, 1, 2, 2};
        for (int hour = 0; hour < states.length; hour++) {
            Check.due("state(0) at " + hour, x.state(0), states[hour]);
            x.pass(1);
        }
        x.pass(100);
        Check.due("state(0) at 109", x.state(0), HarborTides.MOORED);
    }

    // "Ships whose move began 2 hours ago are .. GONE".
    private static void goingForTwoHours() {
        HarborTides x = new HarborTides();
        x.ship(1, 20, 0, 0);
        x.order(0, 1);
        x.pass(3);
        x.order(0, 4);
        int[] states = {2, 3, 3, 4, 4};
        for (int k = 0; k < states.length; k++) {
            Check.due("state(0) at " + (3 + k), x.state(0), states[k]);
            x.pass(1);
        }
        x.pass(100);
        Check.due("state(0) at 108", x.state(0), HarborTides.GONE);
    }

    // The second ship orders for each hour from 2 on anew: it comes in when the first one's berth is free.
    private static void aBerthIsTakenInThreeStates() {
        HarborTides x = new HarborTides();
        Ports.ships(x, 1, 6);
        x.ship(1, 20, 0, 0);
        x.order(0, 1);
        x.order(6, 1);
        Check.due("pass(1), one of both", x.pass(1), 1);
        int[] states = {1, 2, 2, 3, 3};
        for (int k = 0; k < states.length; k++) {
            if (k == 2) {
                x.order(0, 5);
            }
            if (x.queue(6) == HarborTides.NONE) {
                x.order(6, 2 + k);
            }
            Check.due("pass(1) to " + (2 + k), x.pass(1), k == 3 ? 1 : 0);
            Check.due("state(0) at " + (2 + k), x.state(0), states[k]);
            Check.due("state(6) at " + (2 + k), x.state(6), HarborTides.AT_SEA);
        }
        Check.due("pass(1) to 7", x.pass(1), 1);
        Check.due("state(0) at 7", x.state(0), HarborTides.GONE);
        Check.due("state(6) at 7", x.state(6), HarborTides.COMING);
    }

    // Neither a ship AT_SEA for the berth, with an order or without one, nor one that is GONE takes it.
    private static void aBerthIsFreeInTheOtherStates() {
        HarborTides x = new HarborTides();
        for (int k = 0; k < 4; k++) {
            x.ship(1, 20, k, 3);
        }
        x.order(0, 2);
        x.order(3, 1);
        Check.due("pass(1), with ships AT_SEA for the berth", x.pass(1), 1);
        x.pass(2);
        x.order(3, 4);
        x.pass(3);
        Check.due("state(3) at 6", x.state(3), HarborTides.GONE);
        x.order(2, 7);
        Check.due("pass(1), with a ship GONE from the berth", x.pass(1), 1);
        Check.due("state(2)", x.state(2), HarborTides.COMING);
    }

    private static void aBerthIsNotTakenByShipsOfOthers() {
        HarborTides x = new HarborTides();
        Ports.ships(x, 1, 6);
        for (int k = 0; k < 6; k++) {
            x.order(k, k < 4 ? 1 : 4);
        }
        Check.due("pass(4), a ship for each berth", x.pass(4), 6);
    }
}
