/** Promises 20 to 26: paid, earned, tugPay, port, lost, claims and payClaim, at their edges. */
public final class PayEdgesTest {
    public static void main(String[] args) {
        callsOfTheFirstAndTheLastShip();
        tidesAndClaimsOfTheFirstAndTheLastShip();
        earnedOfTheFirstAndTheLastPilot();
        nothingPaidAheadOfTheFirstMove();
        paidFallsBelow0();
        paidToThePilotsAndTheTugsIsPaid();
        earnedByMovesAndByTidesLost();
        tugPayByMovesAlone();
        portFallsBelow0();
        lostFrom0On();
        claimsFrom0On();
        worthOfEachSize();
        payClaimUntilThereIsNone();
        payClaimInEachState();
        payClaimOfOneShipAlone();
        theGreatestSums();
        Check.end();
    }

    private static void callsOfTheFirstAndTheLastShip() {
        HarborTides x = new HarborTides();
        Ports.ships(x, 1, 30);
        for (int ship : new int[] {Integer.MIN_VALUE, -1, 30, Integer.MAX_VALUE}) {
            Check.noSuch(x, "paid(" + ship + ")", () -> x.paid(ship));
            Check.noSuch(x, "lost(" + ship + ")", () -> x.lost(ship));
            Check.noSuch(x, "claims(" + ship + ")", () -> x.claims(ship));
            Check.noSuch(x, "payClaim(" + ship + ")", () -> x.payClaim(ship));
        }
        x.order(0, 1);
        x.order(24, 1);
        x.order(29, 1);
        x.pass(4);
        Check.due("paid(0)", x.paid(0), 190);
        Check.due("paid(29)", x.paid(29), 190);
        Check.due("paid(1)", x.paid(1), 0);
        Check.due("claims(24)", x.claims(24), 1);
        Check.due("claims(29)", x.claims(29), 0);
        Check.due("lost(29)", x.lost(29), 0);
        x.order(24, 5);
        x.pass(4);
        Check.due("payClaim(24)", x.payClaim(24), 80);
        Check.refused(x, "payClaim(0)", () -> x.payClaim(0));
        Check.refused(x, "payClaim(29)", () -> x.payClaim(29));
    }

    // The ship 15 takes the berth of all; 0 and 29 wait for it, and lose the tide of the hour 6.
    private static void tidesAndClaimsOfTheFirstAndTheLastShip() {
        HarborTides x = new HarborTides();
        x.table(6, 0);
        for (int ship = 0; ship < 30; ship++) {
            x.ship(1 + ship % 4, 30, ship == 15 ? 3 : 0, 0);
        }
        for (int ship : new int[] {0, 15, 29}) {
            x.order(ship, 1);
        }
        x.pass(4);
        x.order(0, 6);
        x.order(29, 6);
        x.pass(2);
        for (int ship = 0; ship < 30; ship++) {
            boolean end = ship == 0 || ship == 29;
            Check.due("claims(" + ship + ")", x.claims(ship), end ? 1 : 0);
            Check.due("lost(" + ship + ")", x.lost(ship), end ? 1 : 0);
            if (ship != 15) {
                Check.due("paid(" + ship + ")", x.paid(ship), end ? 100 : 0);
            }
        }
        Check.due("payClaim(0)", x.payClaim(0), 80);
        Check.due("payClaim(29)", x.payClaim(29), 160);
        Check.due("paid(0)", x.paid(0), 20);
        Check.due("paid(29)", x.paid(29), -60);
        Check.refused(x, "payClaim(28)", () -> x.payClaim(28));
    }

    private static void earnedOfTheFirstAndTheLastPilot() {
        HarborTides x = new HarborTides();
        x.ship(1, 150, 0, 0);
        x.order(0, 1);
        x.swap(5, 1);
        x.pass(1);
        Check.due("earned(0)", x.earned(0), 50);
        Check.due("earned(5)", x.earned(5), 50);
        Check.due("earned(1)", x.earned(1), 0);
        for (int pilot : new int[] {Integer.MIN_VALUE, -1, 6, Integer.MAX_VALUE}) {
            Check.noSuch(x, "earned(" + pilot + ")", () -> x.earned(pilot));
        }
    }

    private static void nothingPaidAheadOfTheFirstMove() {
        HarborTides x = new HarborTides();
        x.ship(4, 20, 3, 0);
        x.order(0, 90);
        x.pass(89);
        Check.due("paid(0), an hour ahead of the move", x.paid(0), 0);
        Check.due("tugPay()", x.tugPay(), 0);
        Check.due("port()", x.port(), 0);
        x.pass(1);
        Check.due("paid(0)", x.paid(0), 570);
        Check.due("tugPay()", x.tugPay(), 120);
        Check.due("port()", x.port(), 400);
    }

    /** A port at 4, its berth 0 taken for good, where each ship from 1 on has a claim. */
    private static HarborTides withClaims(int... sizes) {
        HarborTides x = new HarborTides();
        x.ship(1, 20, 3, 0);
        x.order(0, 1);
        for (int k = 0; k < sizes.length; k++) {
            x.ship(sizes[k], 20, 0, 0);
            x.order(k + 1, 1);
        }
        x.pass(4);
        return x;
    }

    // Promise 20: "Returns what a ship has paid, less what it was paid."
    private static void paidFallsBelow0() {
        HarborTides x = withClaims(1);
        x.order(1, 5);
        x.pass(4);
        Check.due("claims(1)", x.claims(1), 2);
        Check.due("paid(1)", x.paid(1), 0);
        x.payClaim(1);
        Check.due("paid(1)", x.paid(1), -80);
        x.order(0, 9);
        x.pass(1);
        x.order(1, 11);
        x.pass(2);
        Check.due("paid(1), with a move of 180", x.paid(1), 100);
        x.payClaim(1);
        Check.due("paid(1)", x.paid(1), 20);
    }

    private static void paidToThePilotsAndTheTugsIsPaid() {
        HarborTides x = new HarborTides();
        x.ship(2, 75, 0, 0);
        x.wind(4, 1, -1);
        x.order(0, 4);
        x.pass(4);
        Check.due("paid(0), a tide lost", x.paid(0), 100);
        x.order(0, 5);
        x.pass(1);
        Check.due("paid(0), and a move", x.paid(0), 100 + 50 + 60 + 200);
        x.pass(2);
        Check.due("paid(0), and an hour", x.paid(0), 420);
        Check.due("all that was paid came to someone", x.earned(0) + x.earned(1) + x.tugPay() + x.port(), 420);
    }

    private static void earnedByMovesAndByTidesLost() {
        HarborTides x = new HarborTides();
        x.ship(4, 20, 1, 0);
        x.ship(4, 150, 0, 1);
        x.order(0, 1);
        x.pass(3);
        Check.due("earned(0), by a move of the size 4", x.earned(0), 50);
        Check.due("earned(1)", x.earned(1), 0);
        x.order(1, 4);
        x.pass(1);
        Check.due("earned(1), first of the rota", x.earned(1), 50);
        Check.due("earned(2), second of the rota", x.earned(2), 50);
        Check.due("earned(3), third of the rota", x.earned(3), 0);
        Check.due("earned(0), last of the rota", x.earned(0), 50);
        x.order(0, 5);
        x.pass(1);
        Check.due("earned(1), lost and moved", x.earned(1), 100);
        x.pass(50);
        Check.due("earned(1), by no hour", x.earned(1), 100);
    }

    private static void tugPayByMovesAlone() {
        HarborTides x = withClaims(4);
        Check.due("tugPay()", x.tugPay(), 30);
        x.payClaim(1);
        x.ship(1, 150, 0, 1);
        x.order(2, 5);
        x.pass(10);
        Check.due("lost(2)", x.lost(2), 1);
        Check.due("tugPay()", x.tugPay(), 30);
        x.order(0, 15);
        x.pass(1);
        Check.due("tugPay(), going out", x.tugPay(), 60);
    }

    // Promise 23: "Returns what the port was paid, less what it paid."
    private static void portFallsBelow0() {
        HarborTides x = withClaims(4);
        Check.due("port(): 100 and two hours of 5", x.port(), 110);
        x.payClaim(1);
        Check.due("port()", x.port(), -210);
        x.pass(42);
        Check.due("port() of 42 hours more", x.port(), 0);
        x.pass(1);
        Check.due("port() of 43 hours more", x.port(), 5);
    }

    private static void lostFrom0On() {
        HarborTides x = new HarborTides();
        x.ship(1, 150, 0, 0);
        x.ship(1, 20, 0, 0);
        x.order(0, 2);
        x.order(1, 2);
        x.pass(1);
        Check.due("lost(0), none yet", x.lost(0), 0);
        x.pass(1);
        Check.due("lost(0)", x.lost(0), 1);
        Check.due("lost(1), done", x.lost(1), 0);
        Check.due("claims(0)", x.claims(0), 0);
        x.order(0, 9);
        x.cancel(0);
        x.pass(20);
        Check.due("lost(0), for an order taken back", x.lost(0), 1);
    }

    private static void claimsFrom0On() {
        HarborTides x = new HarborTides();
        x.ship(1, 20, 1, 0);
        x.ship(1, 20, 0, 0);
        Check.due("claims(1), none yet", x.claims(1), 0);
        x.order(0, 1);
        x.pass(1);
        for (int claim = 1; claim <= 20; claim++) {
            x.order(1, 4 * claim - 2);
            x.pass(3);
            Check.due("claims(1), an hour ahead of failing", x.claims(1), claim - 1);
            x.pass(1);
            Check.due("claims(1), failing", x.claims(1), claim);
        }
        x.pass(100);
        Check.due("claims(1), without an order", x.claims(1), 20);
    }

    // "A claim is worth 80 times the size of the ship".
    private static void worthOfEachSize() {
        HarborTides x = withClaims(1, 2, 3, 4);
        for (int size = 1; size <= 4; size++) {
            int port = x.port();
            Check.due("payClaim(" + size + ")", x.payClaim(size), 80 * size);
            Check.due("paid(" + size + ")", x.paid(size), -80 * size);
            Check.due("port()", x.port(), port - 80 * size);
        }
    }

    // Promise 26: "IllegalStateException if it has none".
    private static void payClaimUntilThereIsNone() {
        HarborTides x = withClaims(2);
        x.order(1, 5);
        x.pass(4);
        Check.due("claims(1)", x.claims(1), 2);
        Check.due("payClaim(1)", x.payClaim(1), 160);
        Check.due("claims(1)", x.claims(1), 1);
        Check.due("payClaim(1), the last one", x.payClaim(1), 160);
        Check.due("claims(1)", x.claims(1), 0);
        Check.refused(x, "payClaim(1), none left", () -> x.payClaim(1));
        Check.due("paid(1)", x.paid(1), -320);
        x.order(1, 9);
        x.pass(4);
        Check.due("claims(1), one anew", x.claims(1), 1);
        Check.due("payClaim(1)", x.payClaim(1), 160);
        Check.refused(x, "payClaim(1), none left", () -> x.payClaim(1));
    }

    // A claim stays, whatever becomes of the ship.
    private static void payClaimInEachState() {
        int[] hours = {5, 9, 11, 20, 23};
        for (int state = HarborTides.AT_SEA; state <= HarborTides.GONE; state++) {
            HarborTides x = withClaims(1);
            x.order(0, 5);
            x.pass(1);
            if (state >= HarborTides.COMING) {
                x.order(1, 8);
                x.pass(hours[Math.min(state, 2)] - 5);
            }
            if (state >= HarborTides.GOING) {
                x.order(1, 20);
                x.pass(hours[state] - 11);
            }
            Check.due("state(1)", x.state(1), state);
            Check.due("claims(1) in state " + state, x.claims(1), 1);
            int paid = x.paid(1);
            Check.due("payClaim(1) in state " + state, x.payClaim(1), 80);
            Check.due("paid(1) in state " + state, x.paid(1), paid - 80);
            Check.due("claims(1) in state " + state, x.claims(1), 0);
            Check.refused(x, "payClaim(1) in state " + state, () -> x.payClaim(1));
        }
    }

    private static void payClaimOfOneShipAlone() {
        HarborTides x = withClaims(1, 1, 1);
        x.payClaim(2);
        Check.due("claims(1)", x.claims(1), 1);
        Check.due("claims(2)", x.claims(2), 0);
        Check.due("claims(3)", x.claims(3), 1);
        Check.due("paid(1)", x.paid(1), 0);
        Check.due("paid(3)", x.paid(3), 0);
        Check.refused(x, "payClaim(0)", () -> x.payClaim(0));
        Check.due("earned(0)", x.earned(0), 50);
    }

    // Six ships of the size 4 are MOORED for nearly all hours.
    private static void theGreatestSums() {
        HarborTides x = new HarborTides();
        Ports.ships(x, 4, 6);
        for (int ship = 0; ship < 6; ship++) {
            x.order(ship, 1 + 3 * ship);
        }
        Check.due("the hours to 3000", Ports.pass(x, 3000), 6);
        int port = 0;
        for (int ship = 0; ship < 6; ship++) {
            int hours = 3000 - (3 + 3 * ship) + 1;
            Check.due("paid(" + ship + ")", x.paid(ship), 570 + 20 * hours);
            port += 400 + 20 * hours;
        }
        Check.due("port()", x.port(), port);
        Check.due("tugPay()", x.tugPay(), 720);
    }
}
