/** Promise 16 and the sentences of "tugs" on shifts and on what a tug was taken for, at their edges. */
public final class TugEdgesTest {
    private static final int[] SHIFTS = {0b110110, 0b011011, 0b101101};

    public static void main(String[] args) {
        firstAndLastHourOfAShift();
        theShiftsBeginAnew();
        theLastHourOfAll();
        readyThreeHoursBehindAMove();
        readyThreeHoursBehindEachSize();
        takenAcrossAShift();
        takenAgainAtOnce();
        allTugsTakenAndNone();
        theLowestOfThoseReady();
        tugsOffDutyAreNotTaken();
        noTugIsTakenByOthers();
        Check.end();
    }

    // "the hour divided by 8, rounded down, and its number, together, are not divisible by 3".
    private static void firstAndLastHourOfAShift() {
        int[] hours = {0, 7, 8, 15, 16, 23, 24, 31};
        int[] shifts = {0, 0, 1, 1, 2, 2, 0, 0};
        for (int k = 0; k < hours.length; k++) {
            Check.due("tugs() at " + hours[k], Ports.at(hours[k]).tugs(), SHIFTS[shifts[k]]);
        }
    }

    private static void theShiftsBeginAnew() {
        HarborTides x = new HarborTides();
        for (int hour = 0; hour < 250; hour++) {
            Check.due("tugs() at " + hour, x.tugs(), SHIFTS[hour / 8 % 3]);
            x.pass(1);
        }
    }

    // 3000 is in the shift 375, which is the first one again.
    private static void theLastHourOfAll() {
        HarborTides x = Ports.at(2999);
        Check.due("tugs() at 2999", x.tugs(), SHIFTS[2]);
        x.pass(1);
        Check.due("tugs() at 3000", x.tugs(), SHIFTS[0]);
    }

    // "the move for which it was taken last began at least 3 hours ahead".
    private static void readyThreeHoursBehindAMove() {
        for (int hour : new int[] {1, 2, 3, 4}) {
            HarborTides x = new HarborTides();
            x.ship(1, 20, 0, 0);
            x.order(0, hour);
            x.pass(hour);
            for (int ago = 0; ago <= 3; ago++) {
                Check.due("tugs() " + ago + " hours behind " + hour, x.tugs(), ago >= 3 ? 0b110110 : 0b110100);
                x.pass(1);
            }
        }
    }

    private static void readyThreeHoursBehindEachSize() {
        int[] left = {0b110110, 0b110100, 0b110000, 0b100000, 0};
        for (int size = 1; size <= 4; size++) {
            HarborTides x = new HarborTides();
            x.ship(size, 20, 0, 0);
            x.order(0, 2);
            x.pass(2);
            for (int ago = 0; ago <= 4; ago++) {
                Check.due("tugs() " + ago + " hours ago, size " + size, x.tugs(), left[ago >= 3 ? 0 : size]);
                x.pass(1);
            }
        }
    }

    // Taken in the last hour of a shift: those on duty in the next one too are back in its third hour.
    private static void takenAcrossAShift() {
        HarborTides x = new HarborTides();
        x.ship(4, 20, 0, 0);
        x.order(0, 7);
        x.pass(7);
        Check.due("tugs() at 7", x.tugs(), 0);
        x.pass(1);
        Check.due("tugs() at 8: 1 and 4 of 0, 1, 3 and 4 are taken", x.tugs(), 0b001001);
        x.pass(1);
        Check.due("tugs() at 9", x.tugs(), 0b001001);
        x.pass(1);
        Check.due("tugs() at 10", x.tugs(), 0b011011);
    }

    private static void takenAgainAtOnce() {
        HarborTides x = new HarborTides();
        Ports.ships(x, 1, 2);
        x.order(0, 1);
        x.order(1, 4);
        x.pass(4);
        Check.due("tugs() at 4, 1 taken in the first hour it could be", x.tugs(), 0b110100);
        x.pass(2);
        Check.due("tugs() at 6", x.tugs(), 0b110100);
        x.pass(1);
        Check.due("tugs() at 7", x.tugs(), 0b110110);
    }

    private static void allTugsTakenAndNone() {
        HarborTides x = new HarborTides();
        x.ship(3, 20, 0, 0);
        x.ship(1, 20, 0, 1);
        Check.due("tugs() at 0, none taken", x.tugs(), 0b110110);
        x.order(0, 1);
        x.order(1, 2);
        x.pass(1);
        Check.due("tugs() at 1", x.tugs(), 0b100000);
        x.pass(1);
        Check.due("tugs() at 2, all taken", x.tugs(), 0);
        x.pass(1);
        Check.due("tugs() at 3", x.tugs(), 0);
        x.pass(1);
        Check.due("tugs() at 4", x.tugs(), 0b010110);
        x.pass(1);
        Check.due("tugs() at 5", x.tugs(), 0b110110);
    }

    // "the lowest tugs that are ready", of each shift.
    private static void theLowestOfThoseReady() {
        int[] hours = {1, 9, 17};
        int[][] lowest = {{1, 2, 4, 5}, {0, 1, 3, 4}, {0, 2, 3, 5}};
        for (int shift = 0; shift < 3; shift++) {
            for (int size = 1; size <= 4; size++) {
                HarborTides x = new HarborTides();
                x.ship(size, 20, 0, 0);
                x.order(0, hours[shift]);
                x.pass(hours[shift]);
                int left = SHIFTS[shift];
                for (int k = 0; k < size; k++) {
                    left -= 1 << lowest[shift][k];
                }
                Check.due("tugs() at " + hours[shift] + ", size " + size, x.tugs(), left);
            }
        }
    }

    // At 8 the tugs 0, 1, 3 and 4 are on duty and 1 and 4 are taken, so that two are ready.
    private static void tugsOffDutyAreNotTaken() {
        for (int size = 1; size <= 4; size++) {
            HarborTides x = new HarborTides();
            x.ship(4, 20, 0, 0);
            x.ship(size, 20, 0, 1);
            x.order(0, 7);
            x.order(1, 8);
            x.pass(7);
            Check.due("pass(1) to 8, size " + size, x.pass(1), size <= 2 ? 1 : 0);
            Check.due("tugs() at 8, size " + size, x.tugs(), size == 1 ? 0b001000 : size == 2 ? 0 : 0b001001);
            Check.due("pass(1) to 9, size " + size, x.pass(1), 0);
            Check.due("pass(1) to 10, size " + size, x.pass(1), size <= 2 ? 0 : 1);
        }
    }

    // Tides lost, orders failed and orders that wait take no tugs.
    private static void noTugIsTakenByOthers() {
        HarborTides x = new HarborTides();
        x.ship(1, 20, 1, 0);
        x.ship(4, 150, 0, 1);
        x.ship(2, 20, 0, 0);
        x.order(0, 1);
        x.order(1, 5);
        x.order(2, 4);
        x.pass(5);
        Check.due("lost(1)", x.lost(1), 1);
        Check.due("tugs() at 5", x.tugs(), 0b110110);
        x.pass(2);
        Check.due("claims(2)", x.claims(2), 1);
        Check.due("tugs() at 7", x.tugs(), 0b110110);
    }
}
