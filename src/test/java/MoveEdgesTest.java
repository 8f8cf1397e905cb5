import java.util.List;

/** Promises 17 to 19: moves, move and isSound, at their edges. */
public final class MoveEdgesTest {
    public static void main(String[] args) {
        noMoveAndTheFirst();
        firstAndLastMove();
        sixtyMoves();
        leastAndGreatestMove();
        eachPilotOfAMove();
        orderOfMovesInOneHour();
        soundToTheDecimetre();
        soundWithAPilotReadyThatHour();
        soundWithTugsReadyThatHour();
        soundAtABerthFreeThatHour();
        soundByMovesUpToItAlone();
        unsoundByOneDecimetre();
        unsoundByAnHourOfRest();
        unsoundByAThirdMoveWithin24Hours();
        unsoundByAnHourOfATug();
        unsoundByATugOffDuty();
        unsoundByAnHourAtTheBerth();
        Check.end();
    }

    private static void noMoveAndTheFirst() {
        HarborTides x = new HarborTides();
        x.ship(1, 20, 0, 0);
        x.ship(1, 150, 0, 1);
        x.order(0, 2);
        x.order(1, 1);
        x.pass(1);
        Check.due("moves() behind a tide lost", x.moves(), 0);
        Check.noSuch(x, "move(0)", () -> x.move(0));
        Check.noSuch(x, "isSound(0)", () -> x.isSound(0));
        x.pass(1);
        Check.due("moves()", x.moves(), 1);
        Check.due("move(0)", x.move(0), 20000);
        Check.due("isSound(0)", x.isSound(0), true);
        Check.noSuch(x, "move(1)", () -> x.move(1));
        Check.noSuch(x, "isSound(1)", () -> x.isSound(1));
    }

    private static void firstAndLastMove() {
        HarborTides x = new HarborTides();
        Ports.ships(x, 1, 4);
        for (int ship = 0; ship < 4; ship++) {
            x.order(ship, 1);
        }
        x.pass(1);
        for (int move : new int[] {Integer.MIN_VALUE, -1, 4, 100, Integer.MAX_VALUE}) {
            Check.noSuch(x, "move(" + move + ")", () -> x.move(move));
            Check.noSuch(x, "isSound(" + move + ")", () -> x.isSound(move));
        }
        Check.due("move(0)", x.move(0), 10000);
        Check.due("move(3)", x.move(3), 10330);
        Check.due("isSound(0)", x.isSound(0), true);
        Check.due("isSound(3)", x.isSound(3), true);
    }

    // As many as 30 ships can begin: each of them comes in and goes out once.
    private static void sixtyMoves() {
        HarborTides x = new HarborTides();
        Ports.ships(x, 4, 30);
        int begun = 0;
        for (int ship = 0; ship < 30; ship++) {
            x.order(ship, 10 * ship + 1);
            begun += x.pass(4);
            x.order(ship, 10 * ship + 5);
            begun += x.pass(6);
        }
        Check.due("moves begun", begun, 60);
        Check.due("moves()", x.moves(), 60);
        for (int move = 0; move < 60; move++) {
            int hour = 10 * (move / 2) + 1 + 4 * (move % 2);
            Check.due("the hour of move " + move, x.move(move) / 10000, hour);
            Check.due("the ship of move " + move, x.move(move) / 100 % 100, move / 2);
            Check.due("the pilot of move " + move, x.move(move) / 10 % 10, move % 6);
            Check.due("the way of move " + move, x.move(move) % 10, move % 2);
            Check.due("isSound(" + move + ")", x.isSound(move), true);
        }
        Check.noSuch(x, "move(60)", () -> x.move(60));
        Check.noSuch(x, "isSound(60)", () -> x.isSound(60));
        for (int ship = 0; ship < 30; ship++) {
            int one = ship;
            Check.refused("order(" + one + "), GONE", () -> x.order(one, 3000));
        }
    }

    // The least number is of the hour 1, the ship 0 and the pilot 0; the greatest of 3000, 29, 5 and going out.
    private static void leastAndGreatestMove() {
        HarborTides x = new HarborTides();
        Ports.ships(x, 1, 30);
        x.order(0, 1);
        x.order(29, 10);
        Check.due("pass(100)", x.pass(100), 2);
        Check.due("move(0)", x.move(0), 10000);
        x.order(29, 3000);
        x.swap(5, x.rota(0));
        Check.due("the hours to 3000", Ports.pass(x, 2900), 1);
        Check.due("move(2)", x.move(2), 30000000 + 2900 + 50 + 1);
        Check.due("isSound(2)", x.isSound(2), true);
    }

    private static void eachPilotOfAMove() {
        for (int pilot = 0; pilot < 6; pilot++) {
            HarborTides x = new HarborTides();
            if (pilot > 0) {
                x.swap(pilot, 0);
            }
            x.ship(1, 20, 0, 0);
            x.order(0, 7);
            x.pass(7);
            Check.due("move(0)", x.move(0), 70000 + 10 * pilot);
        }
    }

    // Moves of one hour are numbered as their orders are looked at.
    private static void orderOfMovesInOneHour() {
        HarborTides x = new HarborTides();
        for (int contract = 0; contract < 4; contract++) {
            x.ship(1, 20, contract, contract);
            x.order(contract, 3);
        }
        Check.due("pass(3)", x.pass(3), 4);
        for (int move = 0; move < 4; move++) {
            Check.due("move(" + move + ")", x.move(move), 30000 + 100 * (3 - move) + 10 * move);
        }
    }

    private static void dueSound(HarborTides x, int moves) {
        Check.due("moves()", x.moves(), moves);
        for (int move = 0; move < moves; move++) {
            Check.due("isSound(" + move + ")", x.isSound(move), true);
        }
    }

    private static void soundToTheDecimetre() {
        HarborTides x = new HarborTides();
        x.berth(0, 30);
        x.ship(1, 75, 0, 0);
        x.order(0, 1);
        x.pass(3);
        x.order(0, 5);
        x.pass(2);
        dueSound(x, 2);
        x.wind(8, 48, -40);
        x.pass(20);
        dueSound(x, 2);
    }

    /** A port where the pilot 0 began moves at these hours, at the last of which it is. */
    private static HarborTides withOnePilot(int... hours) {
        HarborTides x = new HarborTides();
        int now = 0;
        for (int ship = 0; ship < hours.length; ship++) {
            x.ship(1, 20, 0, ship);
            x.order(ship, hours[ship]);
            Ports.pass(x, hours[ship] - now - 1);
            if (x.rota(0) != 0) {
                x.swap(0, x.rota(0));
            }
            x.pass(1);
            now = hours[ship];
            Check.due("move(" + ship + ")", x.move(ship), 10000 * now + 100 * ship);
        }
        return x;
    }

    // Each move as early as the pilot could begin it.
    private static void soundWithAPilotReadyThatHour() {
        dueSound(withOnePilot(1, 7, 13, 25, 31), 5);
    }

    private static void soundWithTugsReadyThatHour() {
        HarborTides x = new HarborTides();
        Ports.ships(x, 4, 2);
        x.order(0, 1);
        x.order(1, 4);
        x.pass(4);
        dueSound(x, 2);
    }

    private static void soundAtABerthFreeThatHour() {
        dueSound(inAndOutAndIn(), 3);
    }

    /** A port at 6: a ship went out at 4, another one came to the same berth at 6. */
    private static HarborTides inAndOutAndIn() {
        HarborTides x = new HarborTides();
        x.ship(1, 20, 0, 0);
        x.ship(1, 20, 0, 0);
        x.order(0, 1);
        x.pass(3);
        x.order(0, 4);
        x.order(1, 6);
        x.pass(3);
        return x;
    }

    // "from all moves up to it": neither later moves nor those of the same hour that came behind it.
    private static void soundByMovesUpToItAlone() {
        HarborTides x = new HarborTides();
        Ports.ships(x, 1, 4);
        for (int ship = 0; ship < 4; ship++) {
            x.order(ship, 1);
        }
        x.pass(1);
        dueSound(x, 4);
        x.pass(6);
        for (int ship = 0; ship < 4; ship++) {
            x.order(ship, 8);
        }
        x.pass(1);
        dueSound(x, 8);
        x.pass(100);
        dueSound(x, 8);
    }

    // From here on: by the face no move is ever unsound, so a hand inside the object makes it so, by as little as can be.

    private static void dueOnlyUnsound(HarborTides x, int unsound) {
        for (int move = 0; move < x.moves(); move++) {
            Check.due("isSound(" + move + "), unsound is " + unsound, x.isSound(move), move != unsound);
        }
    }

    private static void unsoundByOneDecimetre() {
        HarborTides x = new HarborTides();
        x.berth(0, 30);
        x.ship(1, 75, 0, 0);
        x.order(0, 1);
        x.pass(3);
        x.order(0, 5);
        x.pass(2);
        int[] surges = (int[]) Inside.of(Inside.of(x, "water"), "surges");
        for (int hour = 0; hour <= 7; hour++) {
            surges[hour] = -1;
            dueOnlyUnsound(x, hour == 1 || hour == 2 ? 0 : hour == 5 || hour == 6 ? 1 : -1);
            surges[hour] = 0;
        }
    }

    private static void unsoundByAnHourOfRest() {
        HarborTides x = withOnePilot(1, 7);
        Inside.put(Inside.moves(x).get(0), "hour", 2);
        dueOnlyUnsound(x, 1);
    }

    private static void unsoundByAThirdMoveWithin24Hours() {
        HarborTides x = withOnePilot(1, 7, 13, 25);
        Inside.put(Inside.moves(x).get(3), "hour", 24);
        dueOnlyUnsound(x, 3);
        Inside.put(Inside.moves(x).get(1), "pilot", 1);
        dueOnlyUnsound(x, -1);
    }

    private static void unsoundByAnHourOfATug() {
        HarborTides x = new HarborTides();
        Ports.ships(x, 4, 2);
        x.order(0, 1);
        x.order(1, 4);
        x.pass(4);
        Inside.put(Inside.moves(x).get(0), "hour", 2);
        dueOnlyUnsound(x, 1);
    }

    // At 7 the tugs 1, 2, 4 and 5 are on duty, from 8 on 2 and 5 are not.
    private static void unsoundByATugOffDuty() {
        HarborTides x = new HarborTides();
        x.ship(4, 20, 0, 0);
        x.order(0, 7);
        x.pass(10);
        dueOnlyUnsound(x, -1);
        Inside.put(Inside.moves(x).get(0), "hour", 8);
        dueOnlyUnsound(x, 0);
        Inside.put(Inside.moves(x).get(0), "tugs", 0b011011);
        dueOnlyUnsound(x, -1);
        for (int tug = 0; tug < 6; tug++) {
            Inside.put(Inside.moves(x).get(0), "tugs", 1 << tug);
            dueOnlyUnsound(x, tug % 3 == 2 ? 0 : -1);
        }
    }

    private static void unsoundByAnHourAtTheBerth() {
        HarborTides x = inAndOutAndIn();
        List<Object> moves = Inside.moves(x);
        Inside.put(moves.get(1), "hour", 5);
        dueOnlyUnsound(x, 2);
        Inside.put(moves.get(1), "hour", 4);
        dueOnlyUnsound(x, -1);
        moves.remove(1);
        dueOnlyUnsound(x, 1);
    }
}
