/** Promises 1, 6 to 8 and 10 to 12: ships, orders, their queue, and hours that pass. */
public final class OrdersTest {
    public static void main(String[] args) {
        newPort();
        ships();
        shipsOutOfRange();
        order();
        orderOutOfRange();
        orderInEachState();
        cancel();
        queue();
        queueOfWaitingOrders();
        pass();
        passOutOfRange();
        passToTheEnd();
        Check.end();
    }

    private static void newPort() {
        HarborTides x = new HarborTides();
        Check.noSuch("state(0)", () -> x.state(0));
        Check.noSuch("queue(0)", () -> x.queue(0));
        Check.noSuch("order(0, 1)", () -> x.order(0, 1));
        Check.noSuch("cancel(0)", () -> x.cancel(0));
        Check.due("pass(100)", x.pass(100), 0);
        Check.due("moves()", x.moves(), 0);
    }

    private static void ships() {
        HarborTides x = new HarborTides();
        for (int k = 0; k < 30; k++) {
            Check.due("ship " + k, x.ship(1 + k % 4, 10 + k, k % 4, k % 6), k);
            Check.due("state(" + k + ")", x.state(k), HarborTides.AT_SEA);
            Check.due("queue(" + k + ")", x.queue(k), HarborTides.NONE);
        }
        Check.refused("a ship more than 30", () -> x.ship(1, 10, 0, 0));
        Check.outOfRange("a ship more, of size 0", () -> x.ship(0, 10, 0, 0));
        Check.noSuch("a ship more, for berth 6", () -> x.ship(1, 10, 0, 6));
        Check.noSuch("state(30)", () -> x.state(30));
        Check.noSuch("state(-1)", () -> x.state(-1));
        Check.noSuch("state(MIN)", () -> x.state(Integer.MIN_VALUE));
        Check.noSuch("queue(30)", () -> x.queue(30));
        Check.noSuch("queue(-1)", () -> x.queue(-1));
    }

    private static void shipsOutOfRange() {
        HarborTides x = new HarborTides();
        Check.outOfRange("size 0", () -> x.ship(0, 10, 0, 0));
        Check.outOfRange("size 5", () -> x.ship(5, 10, 0, 0));
        Check.outOfRange("draught 9", () -> x.ship(1, 9, 0, 0));
        Check.outOfRange("draught 151", () -> x.ship(1, 151, 0, 0));
        Check.outOfRange("contract -1", () -> x.ship(1, 10, -1, 0));
        Check.outOfRange("contract 4", () -> x.ship(1, 10, 4, 0));
        Check.noSuch("berth -1", () -> x.ship(1, 10, 0, -1));
        Check.noSuch("berth 6", () -> x.ship(1, 10, 0, 6));
        Check.noSuch("berth 6 and size 0", () -> x.ship(0, 10, 0, 6));
        Check.noSuch("no ship was added", () -> x.state(0));
        Check.due("ship(1, 10, 0, 0)", x.ship(1, 10, 0, 0), 0);
        Check.due("ship(4, 150, 3, 5)", x.ship(4, 150, 3, 5), 1);
    }

    private static void order() {
        HarborTides x = new HarborTides();
        for (int k = 0; k < 4; k++) {
            x.ship(1, 20, 0, k);
        }
        Check.due("order(0, 1)", x.order(0, 1), 1);
        Check.due("order(1, 3000)", x.order(1, 3000), 2);
        Check.due("order(2, 5)", x.order(2, 5), 3);
        Check.due("pass(1)", x.pass(1), 1);
        Check.due("order(3, 2), behind an order done", x.order(3, 2), 3);
        Check.due("cancel(2)", x.cancel(2), 5);
        Check.due("order(2, 7)", x.order(2, 7), 3);
    }

    private static void orderOutOfRange() {
        HarborTides x = new HarborTides();
        x.ship(1, 20, 0, 0);
        x.pass(10);
        Check.noSuch("order(1, 11)", () -> x.order(1, 11));
        Check.noSuch("order(-1, 11)", () -> x.order(-1, 11));
        Check.noSuch("order(1, 10)", () -> x.order(1, 10));
        Check.outOfRange("order(0, 10) at 10", () -> x.order(0, 10));
        Check.outOfRange("order(0, 9) at 10", () -> x.order(0, 9));
        Check.outOfRange("order(0, -1)", () -> x.order(0, -1));
        Check.outOfRange("order(0, 3001)", () -> x.order(0, 3001));
        Check.outOfRange("order(0, MAX)", () -> x.order(0, Integer.MAX_VALUE));
        Check.outOfRange("order(0, MIN)", () -> x.order(0, Integer.MIN_VALUE));
        Check.due("queue(0)", x.queue(0), HarborTides.NONE);
        Check.due("order(0, 11)", x.order(0, 11), 1);
        Check.refused("order(0, 12) with an order", () -> x.order(0, 12));
        Check.outOfRange("order(0, 10) with an order", () -> x.order(0, 10));
        Check.due("cancel(0) is of the first order", x.cancel(0), 11);
    }

    private static void orderInEachState() {
        HarborTides x = new HarborTides();
        x.ship(1, 20, 0, 0);
        x.order(0, 1);
        x.pass(1);
        Check.due("state(0) at 1", x.state(0), HarborTides.COMING);
        Check.refused("order when COMING", () -> x.order(0, 5));
        Check.outOfRange("order for now when COMING", () -> x.order(0, 1));
        x.pass(1);
        Check.due("state(0) at 2", x.state(0), HarborTides.COMING);
        x.pass(1);
        Check.due("state(0) at 3", x.state(0), HarborTides.MOORED);
        Check.due("order when MOORED", x.order(0, 9), 1);
        Check.due("queue(0)", x.queue(0), 0);
        x.pass(5);
        Check.due("state(0) at 8", x.state(0), HarborTides.MOORED);
        x.pass(1);
        Check.due("state(0) at 9", x.state(0), HarborTides.GOING);
        Check.refused("order when GOING", () -> x.order(0, 15));
        x.pass(1);
        Check.due("state(0) at 10", x.state(0), HarborTides.GOING);
        x.pass(1);
        Check.due("state(0) at 11", x.state(0), HarborTides.GONE);
        Check.refused("order when GONE", () -> x.order(0, 15));
        Check.refused("cancel when GONE", () -> x.cancel(0));
        x.pass(50);
        Check.due("state(0) at 61", x.state(0), HarborTides.GONE);
    }

    private static void cancel() {
        HarborTides x = new HarborTides();
        x.ship(1, 20, 0, 0);
        x.ship(1, 20, 0, 1);
        Check.noSuch("cancel(2)", () -> x.cancel(2));
        Check.noSuch("cancel(-1)", () -> x.cancel(-1));
        Check.refused("cancel(0) without an order", () -> x.cancel(0));
        x.order(0, 3);
        x.order(1, 4);
        Check.due("cancel(0)", x.cancel(0), 3);
        Check.refused("cancel(0) again", () -> x.cancel(0));
        Check.due("queue(0)", x.queue(0), HarborTides.NONE);
        Check.due("queue(1)", x.queue(1), 0);
        Check.due("pass(3)", x.pass(3), 0);
        Check.due("state(0)", x.state(0), HarborTides.AT_SEA);
        Check.due("pass(1)", x.pass(1), 1);
        Check.refused("cancel(1), done", () -> x.cancel(1));
        Check.due("order(0, 5) behind its cancel", x.order(0, 5), 1);
        Check.due("pass(1)", x.pass(1), 1);
        Check.due("state(0)", x.state(0), HarborTides.COMING);
    }

    private static void queue() {
        HarborTides x = new HarborTides();
        int[] contracts = {0, 3, 1, 3, 0, 3, 2};
        int[] hours = {5, 9, 5, 8, 4, 9, 3000};
        int[] places = {6, 1, 4, 0, 5, 2, 3};
        for (int k = 0; k < contracts.length; k++) {
            x.ship(1, 20, contracts[k], 0);
        }
        for (int k = contracts.length - 1; k >= 0; k--) {
            x.order(k, hours[k]);
        }
        for (int k = 0; k < contracts.length; k++) {
            Check.due("queue(" + k + ")", x.queue(k), places[k]);
        }
        x.cancel(1);
        Check.due("queue(1) behind its cancel", x.queue(1), HarborTides.NONE);
        Check.due("queue(5)", x.queue(5), 1);
        Check.due("queue(0)", x.queue(0), 5);
        x.order(1, 7);
        Check.due("queue(1), for an earlier hour", x.queue(1), 0);
        Check.due("queue(3)", x.queue(3), 1);
    }

    private static void queueOfWaitingOrders() {
        HarborTides x = new HarborTides();
        x.ship(1, 20, 3, 0);
        x.ship(1, 20, 1, 0);
        x.ship(1, 20, 1, 1);
        x.order(0, 1);
        x.order(1, 1);
        x.pass(1);
        Check.due("queue(0), done", x.queue(0), HarborTides.NONE);
        Check.due("queue(1), waiting for its berth", x.queue(1), 0);
        Check.due("order(2, 2)", x.order(2, 2), 2);
        Check.due("queue(2), for a later hour", x.queue(2), 1);
        x.pass(3);
        Check.due("queue(1), FAILED", x.queue(1), HarborTides.NONE);
        Check.due("claims(1)", x.claims(1), 1);
    }

    private static void pass() {
        HarborTides x = new HarborTides();
        for (int k = 0; k < 6; k++) {
            x.ship(1, 20, 0, k);
            x.order(k, 1 + 10 * k);
        }
        Check.due("pass(1)", x.pass(1), 1);
        Check.due("pass(9)", x.pass(9), 0);
        Check.due("pass(21), with the orders for 11, 21 and 31", x.pass(21), 3);
        Check.due("state(3) at 31", x.state(3), HarborTides.COMING);
        Check.due("state(4) at 31", x.state(4), HarborTides.AT_SEA);
        Check.due("pass(100)", x.pass(100), 2);
        Check.due("moves()", x.moves(), 6);
        Check.due("move(4), begun within the hours that passed", x.move(4), 410440);
        Check.due("state(5) at 131", x.state(5), HarborTides.MOORED);
    }

    private static void passOutOfRange() {
        HarborTides x = new HarborTides();
        Check.outOfRange("pass(0)", () -> x.pass(0));
        Check.outOfRange("pass(-1)", () -> x.pass(-1));
        Check.outOfRange("pass(101)", () -> x.pass(101));
        Check.outOfRange("pass(MAX)", () -> x.pass(Integer.MAX_VALUE));
        Check.outOfRange("pass(MIN)", () -> x.pass(Integer.MIN_VALUE));
        Check.due("now is 0: wind(3, ..)", x.wind(3, 1, 1), 0);
        Check.outOfRange("now is 0: wind(2, ..)", () -> x.wind(2, 1, 1));
    }

    private static void passToTheEnd() {
        HarborTides x = new HarborTides();
        x.ship(1, 20, 0, 0);
        x.ship(1, 20, 0, 1);
        x.order(0, 3000);
        for (int k = 0; k < 29; k++) {
            Check.due("pass(100)", x.pass(100), 0);
        }
        Check.due("pass(50)", x.pass(50), 0);
        Check.refused("pass(51) at 2950", () -> x.pass(51));
        Check.refused("pass(100) at 2950", () -> x.pass(100));
        Check.outOfRange("pass(101) at 2950", () -> x.pass(101));
        Check.due("state(0)", x.state(0), HarborTides.AT_SEA);
        Check.due("pass(50) to 3000", x.pass(50), 1);
        Check.due("move(0)", x.move(0), 30000000);
        Check.due("isSound(0)", x.isSound(0), true);
        Check.refused("pass(1) at 3000", () -> x.pass(1));
        Check.outOfRange("pass(0) at 3000", () -> x.pass(0));
        Check.outOfRange("order(1, 3000) at 3000", () -> x.order(1, 3000));
        Check.outOfRange("order(1, 3001) at 3000", () -> x.order(1, 3001));
        Check.outOfRange("wind(3002, ..) at 3000", () -> x.wind(3002, 1, 1));
        Check.due("wind(3003, ..) at 3000", x.wind(3003, 48, 1), 0);
        Check.due("depth(3050)", x.depth(3050), 51);
        Check.due("depth(3051)", x.depth(3051), 50);
    }
}
