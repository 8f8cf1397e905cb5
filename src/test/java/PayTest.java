/** Promises 20 to 26: paid, earned, tugPay, port, lost, claims and payClaim. */
public final class PayTest {
    public static void main(String[] args) {
        nothingAtFirst();
        oneStay();
        lostTides();
        claims();
        claimsByNumber();
        everyPaymentGoesSomewhere();
        Check.end();
    }

    private static void duePay(HarborTides x, String when, int paid, int tugPay, int port) {
        Check.due("paid(0) " + when, x.paid(0), paid);
        Check.due("tugPay() " + when, x.tugPay(), tugPay);
        Check.due("port() " + when, x.port(), port);
    }

    private static void nothingAtFirst() {
        HarborTides x = new HarborTides();
        Check.due("tugPay()", x.tugPay(), 0);
        Check.due("port()", x.port(), 0);
        for (int pilot = 0; pilot < 6; pilot++) {
            Check.due("earned(" + pilot + ")", x.earned(pilot), 0);
        }
        Check.noSuch("earned(-1)", () -> x.earned(-1));
        Check.noSuch("earned(6)", () -> x.earned(6));
        Check.noSuch("earned(MAX)", () -> x.earned(Integer.MAX_VALUE));
        Check.noSuch("paid(0)", () -> x.paid(0));
        Check.noSuch("lost(0)", () -> x.lost(0));
        Check.noSuch("claims(0)", () -> x.claims(0));
        Check.noSuch("payClaim(0)", () -> x.payClaim(0));
        x.ship(1, 20, 0, 0);
        Check.due("paid(0)", x.paid(0), 0);
        Check.due("lost(0)", x.lost(0), 0);
        Check.due("claims(0)", x.claims(0), 0);
        Check.refused("payClaim(0)", () -> x.payClaim(0));
        Check.noSuch("paid(1)", () -> x.paid(1));
        Check.noSuch("paid(-1)", () -> x.paid(-1));
        Check.noSuch("lost(1)", () -> x.lost(1));
        Check.noSuch("lost(-1)", () -> x.lost(-1));
        Check.noSuch("claims(1)", () -> x.claims(1));
        Check.noSuch("claims(-1)", () -> x.claims(-1));
        Check.noSuch("payClaim(1)", () -> x.payClaim(1));
        Check.noSuch("payClaim(-1)", () -> x.payClaim(-1));
    }

    private static void oneStay() {
        HarborTides x = new HarborTides();
        x.ship(3, 20, 0, 0);
        x.order(0, 1);
        duePay(x, "AT_SEA", 0, 0, 0);
        x.pass(1);
        duePay(x, "at 1, COMING", 50 + 90 + 300, 90, 300);
        x.pass(1);
        duePay(x, "at 2, COMING", 440, 90, 300);
        x.pass(1);
        duePay(x, "at 3, MOORED", 455, 90, 315);
        x.pass(1);
        duePay(x, "at 4, MOORED", 470, 90, 330);
        x.order(0, 5);
        x.pass(1);
        duePay(x, "at 5, MOORED and then GOING", 485 + 50 + 90, 180, 345);
        x.pass(1);
        duePay(x, "at 6, GOING", 625, 180, 345);
        x.pass(100);
        duePay(x, "at 106, GONE", 625, 180, 345);
        Check.due("earned(0)", x.earned(0), 50);
        Check.due("earned(1)", x.earned(1), 50);
        Check.due("earned(2)", x.earned(2), 0);
    }

    private static void lostTides() {
        HarborTides x = new HarborTides();
        x.ship(4, 150, 0, 0);
        x.ship(1, 150, 0, 0);
        x.order(0, 1);
        x.pass(1);
        x.swap(0, 4);
        x.order(0, 2);
        x.order(1, 2);
        x.pass(1);
        Check.due("lost(0)", x.lost(0), 2);
        Check.due("lost(1)", x.lost(1), 1);
        Check.due("earned(0)", x.earned(0), 50);
        Check.due("earned(1)", x.earned(1), 150);
        Check.due("earned(4)", x.earned(4), 100);
        duePay(x, "behind two tides lost", 200, 0, 0);
        Check.due("paid(1)", x.paid(1), 100);
    }

    private static void claims() {
        HarborTides x = new HarborTides();
        x.ship(1, 20, 0, 0);
        x.ship(4, 20, 0, 0);
        x.order(0, 1);
        x.order(1, 2);
        x.pass(5);
        Check.due("claims(1)", x.claims(1), 1);
        Check.due("claims(0)", x.claims(0), 0);
        x.order(1, 6);
        x.pass(4);
        Check.due("claims(1)", x.claims(1), 2);
        Check.due("paid(1)", x.paid(1), 0);
        int port = x.port();
        int paid = x.paid(0);
        Check.due("payClaim(1)", x.payClaim(1), 320);
        Check.due("claims(1)", x.claims(1), 1);
        Check.due("paid(1)", x.paid(1), -320);
        Check.due("port()", x.port(), port - 320);
        Check.due("payClaim(1)", x.payClaim(1), 320);
        Check.due("claims(1)", x.claims(1), 0);
        Check.refused("payClaim(1) without a claim", () -> x.payClaim(1));
        Check.refused("payClaim(0) without a claim", () -> x.payClaim(0));
        Check.due("paid(1)", x.paid(1), -640);
        Check.due("paid(0)", x.paid(0), paid);
        Check.due("port(), below 0", x.port(), port - 640);
        Check.due("lost(1)", x.lost(1), 0);
    }

    private static void claimsByNumber() {
        HarborTides x = new HarborTides();
        x.ship(1, 20, 3, 0);
        x.order(0, 1);
        for (int size = 1; size <= 4; size++) {
            x.ship(size, 20, 0, 0);
            x.order(size, 1);
        }
        x.pass(4);
        for (int size = 1; size <= 4; size++) {
            Check.due("claims(" + size + ")", x.claims(size), 1);
            Check.due("payClaim(" + size + ")", x.payClaim(size), 80 * size);
        }
    }

    private static void everyPaymentGoesSomewhere() {
        HarborTides x = new HarborTides();
        x.table(5, 10);
        for (int k = 0; k < 12; k++) {
            x.ship(1 + k % 4, 30 + 4 * k, k % 3, k % 6);
            x.order(k, 2 + k / 2);
        }
        x.pass(30);
        for (int k = 0; k < 12; k++) {
            if (x.claims(k) > 0) {
                x.payClaim(k);
            }
        }
        int given = 0;
        for (int k = 0; k < 12; k++) {
            given += x.paid(k);
        }
        int taken = x.tugPay() + x.port();
        for (int pilot = 0; pilot < 6; pilot++) {
            taken += x.earned(pilot);
        }
        Check.due("what the ships paid", given, taken);
    }
}
