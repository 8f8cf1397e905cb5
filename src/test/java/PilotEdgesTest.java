/** Promises 13 to 15 and the sentences of "pilots" on the rota, rest and the last 24 hours, at their edges. */
public final class PilotEdgesTest {
    public static void main(String[] args) {
        firstAndLastPilotToSwap();
        eachPairToSwap();
        neighboursAndEnds();
        swapReturnsAPlaceNotAPilot();
        swapThrowsTheFirstListed();
        swapChangesTheRotaAlone();
        firstAndLastPlaceOfTheRota();
        takenFromTheFirstPlaceAndFromTheLast();
        firstAndLastPilotToBeReady();
        readyAheadOfAnyMove();
        restOfSixHours();
        restBeginsAnewWithEachMove();
        threeMovesWithin24Hours();
        twoMovesWithin24Hours();
        the24HoursSlide();
        aPilotIsReadyInThatHourItself();
        Check.end();
    }

    /** Puts a pilot first, so that the next move takes that pilot, if ready. */
    private static void putFirst(HarborTides x, int pilot) {
        if (x.rota(0) != pilot) {
            x.swap(pilot, x.rota(0));
        }
    }

    /**
     * A port where the pilot 0 begins moves at these hours, each of them ready then; its ships come in, six at most.
     * It is at the last of the hours.
     */
    private static HarborTides withMovesAt(int... hours) {
        HarborTides x = new HarborTides();
        int now = 0;
        for (int k = 0; k < hours.length; k++) {
            x.ship(1, 20, 0, k);
            x.order(k, hours[k]);
            Ports.pass(x, hours[k] - now - 1);
            putFirst(x, 0);
            Check.due("pass(1) to " + hours[k], x.pass(1), 1);
            Check.due("move(" + k + ") is of pilot 0", x.move(k), 10000 * hours[k] + 100 * k);
            now = hours[k];
        }
        return x;
    }

    // Promise 13: "IndexOutOfBoundsException if there is no such pilot, of either".
    private static void firstAndLastPilotToSwap() {
        HarborTides x = new HarborTides();
        for (int pilot : new int[] {Integer.MIN_VALUE, -1, 6, Integer.MAX_VALUE}) {
            Check.noSuch(x, "swap(" + pilot + ", 0)", () -> x.swap(pilot, 0));
            Check.noSuch(x, "swap(0, " + pilot + ")", () -> x.swap(0, pilot));
            Check.noSuch(x, "swap(" + pilot + ", 5)", () -> x.swap(pilot, 5));
            Check.noSuch(x, "swap(5, " + pilot + ")", () -> x.swap(5, pilot));
        }
        Check.due("swap(0, 5)", x.swap(0, 5), 5);
        Check.due("swap(0, 5)", x.swap(0, 5), 0);
        Check.due("swap(5, 0)", x.swap(5, 0), 0);
    }

    private static void eachPairToSwap() {
        for (int pilot = 0; pilot < 6; pilot++) {
            for (int other = 0; other < 6; other++) {
                int one = pilot;
                int two = other;
                HarborTides x = new HarborTides();
                String call = "swap(" + one + ", " + two + ")";
                if (one == two) {
                    Check.outOfRange(x, call, () -> x.swap(one, two));
                } else {
                    Check.due(call, x.swap(one, two), two);
                }
                for (int place = 0; place < 6; place++) {
                    int due = place == one ? two : place == two ? one : place;
                    Check.due("rota(" + place + ") behind " + call, x.rota(place), due);
                }
            }
        }
    }

    private static void neighboursAndEnds() {
        HarborTides x = new HarborTides();
        Check.due("swap(0, 1)", x.swap(0, 1), 1);
        Check.due("swap(4, 5)", x.swap(4, 5), 5);
        Check.due("swap(4, 1), the last and the first", x.swap(4, 1), 0);
        int[] row = {4, 0, 2, 3, 5, 1};
        for (int place = 0; place < 6; place++) {
            Check.due("rota(" + place + ")", x.rota(place), row[place]);
        }
    }

    // Promise 13: "Returns the place of the first one then", in a rota that is no longer 0 to 5.
    private static void swapReturnsAPlaceNotAPilot() {
        HarborTides x = new HarborTides();
        x.swap(0, 3);
        Check.due("swap(0, 5)", x.swap(0, 5), 5);
        Check.due("swap(5, 3)", x.swap(5, 3), 0);
        Check.due("swap(3, 0)", x.swap(3, 0), 5);
    }

    private static void swapThrowsTheFirstListed() {
        HarborTides x = new HarborTides();
        for (int pilot : new int[] {Integer.MIN_VALUE, -1, 6, Integer.MAX_VALUE}) {
            Check.noSuch(x, "swap(" + pilot + ", " + pilot + ")", () -> x.swap(pilot, pilot));
        }
        Check.outOfRange(x, "swap(0, 0)", () -> x.swap(0, 0));
        Check.outOfRange(x, "swap(5, 5)", () -> x.swap(5, 5));
    }

    private static void swapChangesTheRotaAlone() {
        HarborTides x = withMovesAt(1);
        Check.due("swap(0, 1)", x.swap(0, 1), 0);
        Check.due("isReady(0)", x.isReady(0), false);
        Check.due("isReady(1)", x.isReady(1), true);
        Check.due("earned(0)", x.earned(0), 50);
        Check.due("earned(1)", x.earned(1), 0);
        Check.due("move(0)", x.move(0), 10000);
        Check.due("isSound(0)", x.isSound(0), true);
    }

    // Promise 14: "place: 0 for the first one".
    private static void firstAndLastPlaceOfTheRota() {
        HarborTides x = new HarborTides();
        x.swap(0, 5);
        Check.due("rota(0)", x.rota(0), 5);
        Check.due("rota(5)", x.rota(5), 0);
        for (int place : new int[] {Integer.MIN_VALUE, -1, 6, Integer.MAX_VALUE}) {
            Check.noSuch(x, "rota(" + place + ")", () -> x.rota(place));
        }
    }

    private static void takenFromTheFirstPlaceAndFromTheLast() {
        HarborTides x = withMovesAt(1);
        int[] row = {1, 2, 3, 4, 5, 0};
        for (int place = 0; place < 6; place++) {
            Check.due("rota(" + place + ") behind a move of the first", x.rota(place), row[place]);
        }
        for (int ship = 1; ship < 6; ship++) {
            x.ship(1, 20, 0, ship);
            x.order(ship, ship < 4 ? 2 : 5);
        }
        Check.due("pass(4) to 5, with the pilots 1 to 5", x.pass(4), 5);
        x.order(0, 7);
        Check.due("pass(2) to 7, with the pilot 0 again", x.pass(2), 1);
        Check.due("move(6)", x.move(6), 70001);
        for (int place = 0; place < 6; place++) {
            Check.due("rota(" + place + ") behind a move of the first again", x.rota(place), row[place]);
        }
    }

    // Promise 15: "pilot: the pilot", 0 to 5.
    private static void firstAndLastPilotToBeReady() {
        HarborTides x = new HarborTides();
        Ports.ships(x, 1, 2);
        x.swap(0, 5);
        x.order(0, 1);
        x.pass(1);
        Check.due("isReady(5)", x.isReady(5), false);
        Check.due("isReady(0)", x.isReady(0), true);
        putFirst(x, 0);
        x.order(1, 2);
        x.pass(1);
        Check.due("isReady(0)", x.isReady(0), false);
        Check.due("isReady(1)", x.isReady(1), true);
        for (int pilot : new int[] {Integer.MIN_VALUE, -1, 6, Integer.MAX_VALUE}) {
            Check.noSuch(x, "isReady(" + pilot + ")", () -> x.isReady(pilot));
        }
    }

    // A pilot who has begun no move is ready at each hour.
    private static void readyAheadOfAnyMove() {
        for (int now : new int[] {0, 1, 5, 6, 23, 24, 3000}) {
            HarborTides x = Ports.at(now);
            for (int pilot = 0; pilot < 6; pilot++) {
                Check.due("isReady(" + pilot + ") at " + now, x.isReady(pilot), true);
            }
        }
    }

    // "the move that the pilot began last began at least 6 hours ahead of that".
    private static void restOfSixHours() {
        for (int hour : new int[] {1, 2, 11, 2990}) {
            HarborTides x = withMovesAt(hour);
            for (int ago = 0; ago <= 8; ago++) {
                Check.due("isReady(0), " + ago + " hours behind " + hour, x.isReady(0), ago >= 6);
                Check.due("isReady(1)", x.isReady(1), true);
                x.pass(1);
            }
        }
    }

    private static void restBeginsAnewWithEachMove() {
        HarborTides x = withMovesAt(1, 7);
        for (int hour = 7; hour <= 15; hour++) {
            Check.due("isReady(0) at " + hour, x.isReady(0), hour >= 13);
            x.pass(1);
        }
    }

    // "fewer than 3 moves in the last 24 hours, that hour and the 23 ahead of it".
    private static void threeMovesWithin24Hours() {
        int[][] hours = {{1, 7, 13}, {1, 7, 18}, {1, 7, 19}, {1, 12, 18}, {1, 7, 20}, {5, 20, 26}};
        int[] readyAt = {25, 25, 25, 25, 26, 32};
        for (int k = 0; k < readyAt.length; k++) {
            HarborTides x = withMovesAt(hours[k]);
            for (int hour = hours[k][2]; hour <= 40; hour++) {
                Check.due("isReady(0) at " + hour + ", case " + k, x.isReady(0), hour >= readyAt[k]);
                x.pass(1);
            }
        }
    }

    private static void twoMovesWithin24Hours() {
        HarborTides x = withMovesAt(1, 7);
        x.pass(6);
        for (int hour = 13; hour <= 40; hour++) {
            Check.due("isReady(0) at " + hour, x.isReady(0), true);
            x.pass(1);
        }
    }

    // A move 24 hours ahead counts no longer, so that there is a fourth; then those of 7, 13 and 25 count.
    private static void the24HoursSlide() {
        HarborTides x = withMovesAt(1, 7, 13, 25);
        for (int hour = 25; hour <= 45; hour++) {
            Check.due("isReady(0) at " + hour, x.isReady(0), hour >= 31);
            x.pass(1);
        }
        HarborTides y = withMovesAt(2, 14, 20, 26, 38);
        for (int hour = 38; hour <= 50; hour++) {
            Check.due("isReady(0) at " + hour + ", moves at 20, 26 and 38", y.isReady(0), hour >= 44);
            y.pass(1);
        }
        HarborTides z = withMovesAt(2, 14, 20, 26, 38, 44);
        for (int hour = 44; hour <= 70; hour++) {
            Check.due("isReady(0) at " + hour + ", moves at 26, 38 and 44", z.isReady(0), hour >= 50);
            z.pass(1);
        }
    }

    // The pilot of 1 is taken at 7, not at 6: "at least 6 hours", and the hour of the order itself is asked for.
    private static void aPilotIsReadyInThatHourItself() {
        for (int hour = 6; hour <= 8; hour++) {
            HarborTides x = withMovesAt(1);
            x.ship(1, 20, 0, 1);
            x.order(1, hour);
            x.pass(hour - 2);
            putFirst(x, 0);
            Check.due("pass(1)", x.pass(1), 1);
            Check.due("pilot 0 is taken at " + hour, x.move(1) / 10 % 10 == 0, hour >= 7);
        }
        for (int hour = 24; hour <= 26; hour++) {
            HarborTides x = withMovesAt(1, 7, 13);
            x.ship(1, 20, 0, 3);
            x.order(3, hour);
            x.pass(hour - 14);
            putFirst(x, 0);
            Check.due("pass(1)", x.pass(1), 1);
            Check.due("pilot 0 is taken at " + hour, x.move(3) / 10 % 10 == 0, hour >= 25);
        }
    }
}
