/** Promises 7, 10 and 12 and the terms "Orders and moves" and "Each hour": what becomes of orders and ships. */
public final class HoursTest {
    public static void main(String[] args) {
        lostWithoutWater();
        waitsWithoutWaterLater();
        doneAtTheLastHour();
        failedAtTheThirdHour();
        berthIsFreeWhenItsShipIsGone();
        greaterContractFirst();
        earlierHourFirst();
        lowerShipFirst();
        contractBeforeHour();
        lostPaysTheRotaOfThatMoment();
        lostBeforeOtherWants();
        waitsForAPilot();
        waitsForTugsOfTheShift();
        goesOutFromItsOwnBerth();
        ordersDoNotLookAhead();
        Check.end();
    }

    private static void lostWithoutWater() {
        HarborTides x = new HarborTides();
        x.table(3, 0);
        x.ship(1, 30, 0, 0);
        x.order(0, 3);
        x.pass(2);
        Check.due("lost(0) at 2", x.lost(0), 0);
        Check.due("queue(0) at 2", x.queue(0), 0);
        Check.due("pass(1)", x.pass(1), 0);
        Check.due("lost(0) at 3", x.lost(0), 1);
        Check.due("queue(0) at 3", x.queue(0), HarborTides.NONE);
        Check.due("state(0)", x.state(0), HarborTides.AT_SEA);
        Check.due("claims(0)", x.claims(0), 0);
        Check.due("paid(0)", x.paid(0), 100);
        Check.due("earned(0)", x.earned(0), 50);
        Check.due("earned(1)", x.earned(1), 50);
        Check.due("earned(2)", x.earned(2), 0);
        Check.due("port()", x.port(), 0);
        Check.due("rota(0) is as it was", x.rota(0), 0);
        Check.due("isReady(0), for no move began", x.isReady(0), true);
        Check.due("order(0, 15)", x.order(0, 15), 1);
        x.pass(20);
        Check.due("lost(0) at 23", x.lost(0), 2);
        Check.due("claims(0) at 23", x.claims(0), 0);
        Check.due("paid(0) at 23", x.paid(0), 200);
    }

    private static void waitsWithoutWaterLater() {
        HarborTides x = new HarborTides();
        x.table(3, 0);
        x.table(4, 0);
        x.ship(1, 30, 1, 0);
        x.ship(1, 30, 0, 0);
        x.order(0, 2);
        x.order(1, 2);
        Check.due("pass(1)", x.pass(1), 0);
        Check.due("pass(1)", x.pass(1), 1);
        Check.due("hasWater(1, 3)", x.hasWater(1, 3), false);
        x.pass(2);
        Check.due("lost(1) at 4", x.lost(1), 0);
        Check.due("queue(1) at 4", x.queue(1), 0);
        Check.due("claims(1) at 4", x.claims(1), 0);
        x.pass(1);
        Check.due("lost(1) at 5", x.lost(1), 0);
        Check.due("claims(1) at 5", x.claims(1), 1);
        Check.due("queue(1) at 5", x.queue(1), HarborTides.NONE);
        Check.due("paid(1) at 5", x.paid(1), 0);
    }

    // All tugs on duty are taken from 1 to 4: the orders for 1 are looked at for the last time at 4.
    private static void doneAtTheLastHour() {
        HarborTides x = new HarborTides();
        x.ship(4, 20, 3, 0);
        x.ship(2, 20, 0, 1);
        x.ship(4, 20, 0, 2);
        x.ship(2, 20, 0, 3);
        for (int k = 0; k < 3; k++) {
            x.order(k, 1);
        }
        x.order(3, 2);
        Check.due("pass(1)", x.pass(1), 1);
        Check.due("pass(2)", x.pass(2), 0);
        Check.due("claims(2) at 3", x.claims(2), 0);
        Check.due("queue(2) at 3", x.queue(2), 1);
        Check.due("pass(1)", x.pass(1), 2);
        Check.due("move(1), done 3 hours late", x.move(1), 40110);
        Check.due("claims(1)", x.claims(1), 0);
        Check.due("claims(2), failed for two tugs", x.claims(2), 1);
        Check.due("move(2), behind a failed one", x.move(2), 40320);
        Check.due("state(2)", x.state(2), HarborTides.AT_SEA);
        Check.due("tugs()", x.tugs(), 0);
    }

    private static void failedAtTheThirdHour() {
        HarborTides x = new HarborTides();
        x.ship(1, 20, 0, 0);
        x.ship(1, 20, 0, 0);
        x.order(0, 1);
        x.order(1, 7);
        x.pass(9);
        Check.due("claims(1) at 9", x.claims(1), 0);
        Check.due("queue(1) at 9", x.queue(1), 0);
        x.pass(1);
        Check.due("claims(1) at 10", x.claims(1), 1);
        Check.due("queue(1) at 10", x.queue(1), HarborTides.NONE);
        Check.due("paid(1) at 10", x.paid(1), 0);
        Check.due("lost(1) at 10", x.lost(1), 0);
        Check.due("order(1, 11)", x.order(1, 11), 1);
        x.pass(50);
        Check.due("claims(1) at 60", x.claims(1), 2);
    }

    private static void berthIsFreeWhenItsShipIsGone() {
        HarborTides x = new HarborTides();
        x.ship(1, 20, 0, 0);
        x.ship(1, 20, 0, 0);
        x.order(0, 1);
        x.order(1, 3);
        x.pass(3);
        x.order(0, 4);
        Check.due("pass(1)", x.pass(1), 1);
        Check.due("state(0) at 4", x.state(0), HarborTides.GOING);
        Check.due("pass(1)", x.pass(1), 0);
        Check.due("state(1) at 5", x.state(1), HarborTides.AT_SEA);
        Check.due("pass(1)", x.pass(1), 1);
        Check.due("state(0) at 6", x.state(0), HarborTides.GONE);
        Check.due("state(1) at 6", x.state(1), HarborTides.COMING);
        Check.due("claims(1) at 6", x.claims(1), 0);
        Check.due("isSound(2)", x.isSound(2), true);
    }

    private static void greaterContractFirst() {
        HarborTides x = new HarborTides();
        x.ship(1, 20, 0, 0);
        x.ship(1, 20, 2, 0);
        x.ship(1, 20, 1, 0);
        for (int k = 0; k < 3; k++) {
            x.order(k, 2);
        }
        Check.due("pass(2)", x.pass(2), 1);
        Check.due("move(0)", x.move(0), 20100);
        Check.due("state(0)", x.state(0), HarborTides.AT_SEA);
        Check.due("state(2)", x.state(2), HarborTides.AT_SEA);
    }

    private static void earlierHourFirst() {
        HarborTides x = new HarborTides();
        x.ship(1, 20, 3, 0);
        x.ship(1, 20, 1, 0);
        x.ship(1, 20, 1, 0);
        x.order(0, 1);
        x.pass(3);
        x.order(0, 5);
        x.order(1, 6);
        x.order(2, 5);
        Check.due("pass(4)", x.pass(4), 2);
        Check.due("move(2): at 7 the order for 5", x.move(2), 70220);
    }

    private static void lowerShipFirst() {
        HarborTides x = new HarborTides();
        for (int k = 0; k < 3; k++) {
            x.ship(1, 20, 1, 0);
        }
        x.order(2, 4);
        x.order(1, 4);
        Check.due("pass(4)", x.pass(4), 1);
        Check.due("move(0)", x.move(0), 40100);
    }

    private static void contractBeforeHour() {
        HarborTides x = new HarborTides();
        x.ship(1, 20, 3, 0);
        x.ship(1, 20, 1, 0);
        x.ship(1, 20, 2, 0);
        x.order(0, 1);
        x.pass(3);
        x.order(0, 5);
        x.order(1, 5);
        x.order(2, 7);
        Check.due("pass(4)", x.pass(4), 2);
        Check.due("move(2): at 7 the greater contract", x.move(2), 70220);
    }

    private static void lostPaysTheRotaOfThatMoment() {
        HarborTides x = new HarborTides();
        x.table(2, 20);
        x.ship(1, 20, 3, 0);
        x.ship(1, 60, 2, 1);
        x.ship(1, 20, 1, 2);
        x.ship(1, 60, 0, 3);
        for (int k = 0; k < 4; k++) {
            x.order(k, 2);
        }
        Check.due("pass(2)", x.pass(2), 2);
        Check.due("move(0)", x.move(0), 20000);
        Check.due("move(1)", x.move(1), 20210);
        Check.due("earned(0), for a move", x.earned(0), 50);
        Check.due("earned(1), lost and moved", x.earned(1), 100);
        Check.due("earned(2), lost twice", x.earned(2), 100);
        Check.due("earned(3), lost once", x.earned(3), 50);
        Check.due("earned(4)", x.earned(4), 0);
        Check.due("lost(1)", x.lost(1), 1);
        Check.due("lost(3)", x.lost(3), 1);
        Check.due("rota(0)", x.rota(0), 2);
        Check.due("rota(4)", x.rota(4), 0);
        Check.due("rota(5)", x.rota(5), 1);
    }

    private static void lostBeforeOtherWants() {
        HarborTides x = new HarborTides();
        x.table(5, 0);
        x.ship(1, 20, 0, 0);
        x.ship(1, 30, 0, 0);
        x.order(0, 1);
        x.order(1, 5);
        x.pass(5);
        Check.due("lost(1), its berth taken too", x.lost(1), 1);
        Check.due("queue(1)", x.queue(1), HarborTides.NONE);
    }

    private static void waitsForAPilot() {
        HarborTides x = new HarborTides();
        for (int k = 0; k < 6; k++) {
            x.ship(1, 20, 0, k);
            x.order(k, k < 4 ? 1 : 4);
        }
        Check.due("pass(4)", x.pass(4), 6);
        for (int pilot = 0; pilot < 6; pilot++) {
            Check.due("isReady(" + pilot + ")", x.isReady(pilot), false);
        }
        x.order(0, 5);
        Check.due("pass(2)", x.pass(2), 0);
        Check.due("tugs() at 6 has some", x.tugs() != 0, true);
        Check.due("queue(0) at 6", x.queue(0), 0);
        Check.due("pass(1)", x.pass(1), 1);
        Check.due("move(6)", x.move(6), 70001);
    }

    // From 1 to 3 one move has two of four tugs; at 8 the shift changes and has one that is taken.
    private static void waitsForTugsOfTheShift() {
        HarborTides x = new HarborTides();
        x.ship(2, 20, 3, 0);
        x.ship(3, 20, 2, 1);
        x.ship(2, 20, 1, 2);
        x.order(0, 1);
        x.order(1, 1);
        x.order(2, 1);
        Check.due("pass(1)", x.pass(1), 2);
        Check.due("move(0)", x.move(0), 10000);
        Check.due("move(1)", x.move(1), 10210);
        Check.due("queue(1)", x.queue(1), 0);
        Check.due("pass(3)", x.pass(3), 1);
        Check.due("move(2)", x.move(2), 40120);
        x.order(0, 7);
        Check.due("pass(3)", x.pass(3), 1);
        Check.due("tugs() at 7", x.tugs(), 0b110000);
        x.order(1, 8);
        Check.due("pass(1)", x.pass(1), 1);
        Check.due("tugs() at 8: 0, 3 and 4 of 0, 3, 4 are taken", x.tugs(), 0);
    }

    private static void goesOutFromItsOwnBerth() {
        HarborTides x = new HarborTides();
        x.ship(1, 20, 0, 0);
        x.ship(1, 20, 3, 0);
        x.order(0, 1);
        x.pass(3);
        x.order(0, 4);
        x.order(1, 4);
        Check.due("pass(1)", x.pass(1), 1);
        Check.due("move(1)", x.move(1), 40011);
        Check.due("isSound(1), out", x.isSound(1), true);
    }

    private static void ordersDoNotLookAhead() {
        HarborTides x = new HarborTides();
        x.ship(1, 20, 3, 0);
        x.ship(1, 20, 0, 0);
        x.order(0, 5);
        x.order(1, 4);
        Check.due("queue(0)", x.queue(0), 0);
        Check.due("pass(4)", x.pass(4), 1);
        Check.due("move(0): the order that is due", x.move(0), 40100);
        x.pass(3);
        Check.due("claims(0) at 7", x.claims(0), 0);
        x.pass(1);
        Check.due("claims(0) at 8", x.claims(0), 1);
    }
}
