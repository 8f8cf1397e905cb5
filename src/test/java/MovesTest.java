/** Promises 17 to 19: moves, move and isSound. */
public final class MovesTest {
    public static void main(String[] args) {
        noMoves();
        movesOfOnePort();
        soundAfterAll();
        moreThanFiftyMoves();
        soundnessIsFoundAnew();
        Check.end();
    }

    private static void noMoves() {
        HarborTides x = new HarborTides();
        Check.due("moves()", x.moves(), 0);
        Check.noSuch("move(0)", () -> x.move(0));
        Check.noSuch("move(-1)", () -> x.move(-1));
        Check.noSuch("isSound(0)", () -> x.isSound(0));
        Check.noSuch("isSound(-1)", () -> x.isSound(-1));
    }

    private static void movesOfOnePort() {
        HarborTides x = new HarborTides();
        for (int k = 0; k < 13; k++) {
            x.ship(1, 20, 0, k % 6);
        }
        x.order(12, 5);
        x.order(7, 6);
        x.swap(0, 5);
        Check.due("pass(6)", x.pass(6), 2);
        Check.due("moves()", x.moves(), 2);
        Check.due("move(0)", x.move(0), 50000 + 1200 + 50);
        Check.due("move(1)", x.move(1), 60000 + 700 + 10);
        x.pass(94);
        x.order(12, 120);
        Check.due("pass(20)", x.pass(20), 1);
        Check.due("move(2), out", x.move(2), 1200000 + 1200 + 20 + 1);
        Check.noSuch("move(3)", () -> x.move(3));
        Check.noSuch("move(-1)", () -> x.move(-1));
        Check.noSuch("move(MAX)", () -> x.move(Integer.MAX_VALUE));
        Check.noSuch("move(MIN)", () -> x.move(Integer.MIN_VALUE));
        Check.noSuch("isSound(3)", () -> x.isSound(3));
        Check.noSuch("isSound(-1)", () -> x.isSound(-1));
        Check.noSuch("isSound(MAX)", () -> x.isSound(Integer.MAX_VALUE));
        Check.due("moves()", x.moves(), 3);
    }

    // Winds told later, swaps, hours and later moves leave a move as sound as it was.
    private static void soundAfterAll() {
        HarborTides x = new HarborTides();
        x.wind(3, 48, 10);
        x.ship(2, 85, 1, 0);
        x.ship(1, 85, 0, 0);
        x.ship(2, 85, 0, 1);
        x.order(0, 4);
        x.order(1, 8);
        x.order(2, 4);
        x.pass(6);
        x.order(0, 7);
        x.wind(9, 48, -40);
        x.wind(10, 2, 40);
        x.pass(14);
        Check.due("moves()", x.moves(), 3);
        x.swap(0, 3);
        for (int move = 0; move < 3; move++) {
            Check.due("isSound(" + move + ")", x.isSound(move), true);
        }
        Check.due("lost(1), for the wind told at 6", x.lost(1) + x.claims(1), 1);
    }

    private static void moreThanFiftyMoves() {
        HarborTides x = new HarborTides();
        int begun = 0;
        for (int k = 0; k < 30; k++) {
            x.ship(1 + k % 4, 20, k % 4, k % 6);
            x.order(k, 100 * (k / 6) + 1 + 4 * (k % 6));
            if (k % 6 == 5) {
                begun += x.pass(50);
                for (int j = k - 5; j <= k; j++) {
                    x.order(j, 100 * (k / 6) + 51 + 4 * (j % 6));
                }
                begun += x.pass(50);
            }
        }
        Check.due("moves begun", begun, 60);
        Check.due("moves()", x.moves(), 60);
        for (int move = 0; move < 60; move++) {
            Check.due("isSound(" + move + ")", x.isSound(move), true);
            Check.due("the way of move " + move, x.move(move) % 10, move / 6 % 2);
        }
    }

    // By the public face no move is ever unsound: only a hand inside the object can show that isSound looks.
    private static void soundnessIsFoundAnew() {
        HarborTides x = new HarborTides();
        x.ship(1, 20, 2, 0);
        x.ship(1, 20, 1, 1);
        x.ship(1, 20, 0, 0);
        x.order(0, 1);
        x.order(1, 1);
        x.pass(3);
        x.order(0, 5);
        x.pass(4);
        x.order(2, 8);
        x.pass(1);
        Check.due("moves()", x.moves(), 4);
        Object[] moves = Inside.moves(x).toArray();
        int[] surges = (int[]) Inside.of(Inside.of(x, "water"), "surges");
        for (int move = 0; move < 4; move++) {
            Check.due("isSound(" + move + ")", x.isSound(move), true);
        }
        for (int hour : new int[] {1, 2}) {
            surges[hour] = -100;
            Check.due("isSound(0) without water at " + hour, x.isSound(0), false);
            Check.due("isSound(2), which began later", x.isSound(2), true);
            surges[hour] = 0;
        }
        dueUnsound(x, 1, moves[1], "pilot", Inside.of(moves[0], "pilot"));
        dueUnsound(x, 1, moves[1], "tugs", Inside.of(moves[0], "tugs"));
        dueUnsound(x, 1, moves[1], "tugs", 0b1);
        dueUnsound(x, 3, moves[2], "hour", 7);
        dueUnsound(x, 3, moves[2], "out", false);
        dueUnsound(x, 1, moves[1], "ship", Inside.of(moves[0], "ship"));
    }

    private static void dueUnsound(HarborTides x, int move, Object changed, String name, Object value) {
        Object before = Inside.of(changed, name);
        Inside.put(changed, name, value);
        Check.due("isSound(" + move + ") with another " + name, x.isSound(move), false);
        Inside.put(changed, name, before);
        Check.due("isSound(" + move + ") with its own " + name, x.isSound(move), true);
    }
}
