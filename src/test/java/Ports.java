/** Ports as tests want them, made by calls of the public face alone. */
final class Ports {
    private Ports() {
    }

    /** A port without ships, at an hour. */
    static HarborTides at(int hour) {
        HarborTides x = new HarborTides();
        pass(x, hour);
        return x;
    }

    /** Lets hours pass, as few calls as there can be, and returns how many moves began. */
    static int pass(HarborTides x, int hours) {
        int begun = 0;
        for (int left = hours; left > 0; left -= 100) {
            begun += x.pass(Math.min(left, 100));
        }
        return begun;
    }

    /** Adds ships of a size and a draught of 20, of contract 0, for the berths 0, 1 and so on. */
    static void ships(HarborTides x, int size, int ships) {
        for (int k = 0; k < ships; k++) {
            x.ship(size, 20, 0, k % 6);
        }
    }

    /** A port with a ship in each state, and ships of no other berth than their own number's. */
    static HarborTides ofEachState() {
        HarborTides x = new HarborTides();
        for (int state = HarborTides.AT_SEA; state <= HarborTides.GONE; state++) {
            Check.due("the ship's number", x.ship(1, 20, 0, state), state);
        }
        x.order(HarborTides.GONE, 1);
        x.order(HarborTides.GOING, 2);
        x.order(HarborTides.MOORED, 3);
        x.pass(5);
        x.order(HarborTides.GONE, 6);
        x.pass(2);
        x.order(HarborTides.GOING, 8);
        x.order(HarborTides.COMING, 8);
        x.pass(1);
        for (int state = HarborTides.AT_SEA; state <= HarborTides.GONE; state++) {
            Check.due("state(" + state + ") of a port of each state", x.state(state), state);
        }
        return x;
    }
}
