/** Promises 13 to 16: swap, rota, isReady and tugs. */
public final class PilotsAndTugsTest {
    public static void main(String[] args) {
        rota();
        swap();
        swapOutOfRange();
        rotaBehindMoves();
        firstReadyPilotIsTaken();
        rest();
        threeMovesADay();
        readyAgainWhenTheFirstOfThreeIsADayAgo();
        isReadyOfNoPilot();
        tugsByShifts();
        tugsTaken();
        lowestTugsAreTaken();
        Check.end();
    }

    private static void dueRota(HarborTides x, String when, int... pilots) {
        for (int place = 0; place < 6; place++) {
            Check.due("rota(" + place + ") " + when, x.rota(place), pilots[place]);
        }
    }

    private static void rota() {
        HarborTides x = new HarborTides();
        dueRota(x, "at first", 0, 1, 2, 3, 4, 5);
        Check.noSuch("rota(-1)", () -> x.rota(-1));
        Check.noSuch("rota(6)", () -> x.rota(6));
        Check.noSuch("rota(MIN)", () -> x.rota(Integer.MIN_VALUE));
        Check.noSuch("rota(MAX)", () -> x.rota(Integer.MAX_VALUE));
    }

    private static void swap() {
        HarborTides x = new HarborTides();
        Check.due("swap(0, 5)", x.swap(0, 5), 5);
        dueRota(x, "behind swap(0, 5)", 5, 1, 2, 3, 4, 0);
        Check.due("swap(5, 1)", x.swap(5, 1), 1);
        dueRota(x, "behind swap(5, 1)", 1, 5, 2, 3, 4, 0);
        Check.due("swap(0, 1)", x.swap(0, 1), 0);
        dueRota(x, "behind swap(0, 1)", 0, 5, 2, 3, 4, 1);
        Check.due("swap(4, 2)", x.swap(4, 2), 2);
        dueRota(x, "behind swap(4, 2)", 0, 5, 4, 3, 2, 1);
    }

    private static void swapOutOfRange() {
        HarborTides x = new HarborTides();
        Check.noSuch("swap(-1, 0)", () -> x.swap(-1, 0));
        Check.noSuch("swap(0, -1)", () -> x.swap(0, -1));
        Check.noSuch("swap(6, 0)", () -> x.swap(6, 0));
        Check.noSuch("swap(0, 6)", () -> x.swap(0, 6));
        Check.noSuch("swap(6, 6)", () -> x.swap(6, 6));
        Check.noSuch("swap(-1, -1)", () -> x.swap(-1, -1));
        Check.outOfRange("swap(0, 0)", () -> x.swap(0, 0));
        Check.outOfRange("swap(5, 5)", () -> x.swap(5, 5));
        dueRota(x, "behind swaps that threw", 0, 1, 2, 3, 4, 5);
    }

    private static void rotaBehindMoves() {
        HarborTides x = new HarborTides();
        for (int k = 0; k < 3; k++) {
            x.ship(1, 20, 0, k);
        }
        x.order(0, 1);
        x.order(1, 2);
        x.order(2, 2);
        x.pass(1);
        dueRota(x, "behind one move", 1, 2, 3, 4, 5, 0);
        x.swap(1, 4);
        x.pass(1);
        dueRota(x, "behind three moves", 3, 1, 5, 0, 4, 2);
        Check.due("move(1)", x.move(1), 20140);
        Check.due("move(2)", x.move(2), 20220);
    }

    private static void firstReadyPilotIsTaken() {
        HarborTides x = new HarborTides();
        x.ship(1, 20, 0, 0);
        x.ship(1, 20, 0, 1);
        x.order(0, 1);
        x.order(1, 5);
        x.pass(1);
        x.swap(0, 1);
        dueRota(x, "with a pilot at rest ahead", 0, 2, 3, 4, 5, 1);
        x.pass(4);
        Check.due("move(1): pilot 2, for 0 rests", x.move(1), 50120);
        dueRota(x, "behind pilot 2", 0, 3, 4, 5, 1, 2);
    }

    private static void rest() {
        HarborTides x = new HarborTides();
        x.ship(1, 20, 0, 0);
        x.order(0, 1);
        Check.due("isReady(0) at 0", x.isReady(0), true);
        x.pass(1);
        for (int hour = 1; hour < 10; hour++) {
            Check.due("isReady(0) at " + hour, x.isReady(0), hour >= 7);
            Check.due("isReady(1) at " + hour, x.isReady(1), true);
            x.pass(1);
        }
    }

    // Pilot 0 is put first ahead of each move, and so is taken whenever ready.
    private static void threeMovesADay() {
        HarborTides x = new HarborTides();
        int[] hours = {1, 7, 13, 24, 25};
        int now = 0;
        for (int k = 0; k < 5; k++) {
            x.ship(1, 20, 0, k);
            x.order(k, hours[k]);
            if (hours[k] - now > 1) {
                x.pass(hours[k] - now - 1);
            }
            if (x.rota(0) != 0) {
                x.swap(0, x.rota(0));
            }
            now = hours[k];
            Check.due("pass(1) to " + now, x.pass(1), 1);
            Check.due("pilot 0 has the move at " + now, x.move(k) / 10 % 10 == 0, now != 24);
        }
        Check.due("earned(0)", x.earned(0), 200);
        for (int hour = 26; hour < 45; hour++) {
            x.pass(1);
            Check.due("isReady(0) at " + hour, x.isReady(0), hour >= 31);
        }
    }

    private static void readyAgainWhenTheFirstOfThreeIsADayAgo() {
        HarborTides x = new HarborTides();
        for (int k = 0; k < 3; k++) {
            x.ship(1, 20, 0, k);
            x.order(k, 1 + 6 * k);
        }
        x.pass(1);
        x.swap(0, x.rota(0));
        x.pass(6);
        x.swap(0, x.rota(0));
        x.pass(6);
        Check.due("earned(0)", x.earned(0), 150);
        for (int hour = 14; hour < 40; hour++) {
            x.pass(1);
            Check.due("isReady(0) at " + hour, x.isReady(0), hour >= 25);
        }
    }

    private static void isReadyOfNoPilot() {
        HarborTides x = new HarborTides();
        for (int pilot = 0; pilot < 6; pilot++) {
            Check.due("isReady(" + pilot + ")", x.isReady(pilot), true);
        }
        Check.noSuch("isReady(-1)", () -> x.isReady(-1));
        Check.noSuch("isReady(6)", () -> x.isReady(6));
        Check.noSuch("isReady(MAX)", () -> x.isReady(Integer.MAX_VALUE));
    }

    private static void tugsByShifts() {
        HarborTides x = new HarborTides();
        int[] shifts = {0b110110, 0b011011, 0b101101};
        for (int hour = 0; hour < 100; hour++) {
            Check.due("tugs() at " + hour, x.tugs(), shifts[hour / 8 % 3]);
            x.pass(1);
        }
    }

    private static void tugsTaken() {
        HarborTides x = new HarborTides();
        x.ship(2, 20, 0, 0);
        x.ship(3, 20, 0, 1);
        x.order(0, 1);
        x.order(1, 6);
        x.pass(1);
        Check.due("tugs() at 1", x.tugs(), 0b110000);
        x.pass(2);
        Check.due("tugs() at 3", x.tugs(), 0b110000);
        x.pass(1);
        Check.due("tugs() at 4", x.tugs(), 0b110110);
        x.pass(2);
        Check.due("tugs() at 6, of 1, 2 and 4", x.tugs(), 0b100000);
        x.pass(2);
        Check.due("tugs() at 8, of 0, 1, 3 and 4", x.tugs(), 0b001001);
        x.pass(1);
        Check.due("tugs() at 9", x.tugs(), 0b011011);
    }

    private static void lowestTugsAreTaken() {
        HarborTides x = new HarborTides();
        for (int k = 0; k < 4; k++) {
            x.ship(1, 20, 0, k);
        }
        x.order(0, 1);
        x.order(1, 2);
        x.order(2, 3);
        x.order(3, 4);
        x.pass(1);
        Check.due("tugs() at 1", x.tugs(), 0b110100);
        x.pass(1);
        Check.due("tugs() at 2", x.tugs(), 0b110000);
        x.pass(1);
        Check.due("tugs() at 3", x.tugs(), 0b100000);
        x.pass(1);
        Check.due("tugs() at 4: 1 was back and is taken again", x.tugs(), 0b100000);
        x.pass(1);
        Check.due("tugs() at 5: 2 is back", x.tugs(), 0b100100);
    }
}
