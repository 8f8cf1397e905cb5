import java.util.List;

/** Promise 1 at its edges: what there is at first, and all that is not there yet. */
public final class NewPortEdgesTest {
    public static void main(String[] args) {
        thereIsNoShip();
        theFirstShipIsShip0();
        theHourIs0();
        threeThousandHoursAreLeft();
        theTableIs50AtEachOfItsHours();
        theSurgeIs0();
        theBerthsAre60();
        theRotaIs0To5();
        everyPilotIsReady();
        theTugsOfTheFirstShiftAreReady();
        noMoveHasBegun();
        nothingIsPaid();
        twoPortsShareNothing();
        theLastOf512CallsAnswers();
        Check.end();
    }

    private static void thereIsNoShip() {
        HarborTides x = new HarborTides();
        for (int ship : new int[] {Integer.MIN_VALUE, -1, 0, 1, 29, 30, Integer.MAX_VALUE}) {
            String call = "(" + ship + ") without ships";
            Check.noSuch(x, "order" + call, () -> x.order(ship, 1));
            Check.noSuch(x, "cancel" + call, () -> x.cancel(ship));
            Check.noSuch(x, "hasWater" + call, () -> x.hasWater(ship, 0));
            Check.noSuch(x, "state" + call, () -> x.state(ship));
            Check.noSuch(x, "queue" + call, () -> x.queue(ship));
            Check.noSuch(x, "paid" + call, () -> x.paid(ship));
            Check.noSuch(x, "lost" + call, () -> x.lost(ship));
            Check.noSuch(x, "claims" + call, () -> x.claims(ship));
            Check.noSuch(x, "payClaim" + call, () -> x.payClaim(ship));
        }
    }

    private static void theFirstShipIsShip0() {
        HarborTides x = new HarborTides();
        Check.due("ship(..)", x.ship(1, 10, 0, 0), 0);
        Check.due("state(0)", x.state(0), HarborTides.AT_SEA);
        Check.noSuch(x, "state(1)", () -> x.state(1));
    }

    private static void theHourIs0() {
        HarborTides x = new HarborTides();
        x.ship(1, 10, 0, 0);
        Check.outOfRange(x, "order(0, 0), now", () -> x.order(0, 0));
        Check.due("order(0, 1), the hour behind now", x.order(0, 1), 1);
        Check.outOfRange(x, "wind(2, 1, 1), 2 above now", () -> x.wind(2, 1, 1));
        Check.due("wind(3, 1, 1), 3 above now", x.wind(3, 1, 1), 0);
    }

    private static void threeThousandHoursAreLeft() {
        HarborTides x = new HarborTides();
        for (int k = 0; k < 30; k++) {
            Check.due("pass(100)", x.pass(100), 0);
        }
        Check.refused(x, "pass(1) at 3000", () -> x.pass(1));
    }

    private static void theTableIs50AtEachOfItsHours() {
        HarborTides x = new HarborTides();
        for (int hour = 0; hour < 12; hour++) {
            Check.due("table(" + hour + ", 0)", x.table(hour, 0), 50);
        }
    }

    // In ports of their own, for one is promised 512 calls alone.
    private static void theSurgeIs0() {
        for (int first = 0; first <= 3100; first += 500) {
            HarborTides x = new HarborTides();
            for (int hour = first; hour < first + 500 && hour <= 3100; hour++) {
                Check.due("depth(" + hour + ")", x.depth(hour), 50);
            }
        }
    }

    private static void theBerthsAre60() {
        HarborTides x = new HarborTides();
        for (int berth = 0; berth < 6; berth++) {
            Check.due("berth(" + berth + ", 0)", x.berth(berth, 0), 60);
        }
    }

    private static void theRotaIs0To5() {
        HarborTides x = new HarborTides();
        for (int place = 0; place < 6; place++) {
            Check.due("rota(" + place + ")", x.rota(place), place);
        }
    }

    private static void everyPilotIsReady() {
        HarborTides x = new HarborTides();
        for (int pilot = 0; pilot < 6; pilot++) {
            Check.due("isReady(" + pilot + ")", x.isReady(pilot), true);
        }
    }

    private static void theTugsOfTheFirstShiftAreReady() {
        Check.due("tugs(): not 0 and 3", new HarborTides().tugs(), 0b110110);
    }

    private static void noMoveHasBegun() {
        HarborTides x = new HarborTides();
        Check.due("moves()", x.moves(), 0);
        for (int move : new int[] {Integer.MIN_VALUE, -1, 0, 1, 99, 100, Integer.MAX_VALUE}) {
            Check.noSuch(x, "move(" + move + ")", () -> x.move(move));
            Check.noSuch(x, "isSound(" + move + ")", () -> x.isSound(move));
        }
    }

    private static void nothingIsPaid() {
        HarborTides x = new HarborTides();
        Check.due("tugPay()", x.tugPay(), 0);
        Check.due("port()", x.port(), 0);
        for (int pilot = 0; pilot < 6; pilot++) {
            Check.due("earned(" + pilot + ")", x.earned(pilot), 0);
        }
    }

    private static void twoPortsShareNothing() {
        HarborTides untouched = new HarborTides();
        List<Object> before = Inside.all(untouched);
        HarborTides x = new HarborTides();
        x.table(0, 10);
        x.berth(0, 70);
        x.wind(3, 48, 9);
        x.swap(0, 5);
        x.ship(2, 20, 0, 0);
        x.order(0, 4);
        Check.due("pass(10)", x.pass(10), 1);
        Check.due("another port is as it was", Inside.all(untouched).equals(before), true);
        Check.due("a later port is as the first was", Inside.all(new HarborTides()).equals(before), true);
    }

    private static void theLastOf512CallsAnswers() {
        HarborTides x = new HarborTides();
        x.ship(1, 20, 0, 0);
        x.order(0, 500);
        for (int call = 3; call < 512; call++) {
            Check.due("pass(1), call " + call, x.pass(1), call == 502 ? 1 : 0);
        }
        Check.due("paid(0), call 512, MOORED from 502 to 509", x.paid(0), 50 + 30 + 100 + 8 * 5);
    }
}
