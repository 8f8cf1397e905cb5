import java.util.ArrayList;
import java.util.Arrays;

/** A port with tides, pilots, tugs, orders, dues and claims; ../shared/DOC.md says what each call does. */
public final class HarborTides {
    public static final int NONE = -1;
    public static final int AT_SEA = 0, COMING = 1, MOORED = 2, GOING = 3, GONE = 4;

    private static final int LAST_HOUR = 3000, LAST_TIDE = 3100, MOST_HOURS = 100;
    private static final int TABLE_HOURS = 12, TABLE_DEPTH = 50, MOST_TABLE_DEPTH = 150;
    private static final int NOTICE = 3, MOST_WIND_HOURS = 48, MOST_SURGE = 40;
    private static final int BAR = 30, UNDER_KEEL = 5;
    private static final int BERTHS = 6, BERTH_DEPTH = 60, MOST_BERTH_DEPTH = 200;
    private static final int MOST_SHIPS = 30, MOST_SIZE = 4, MOST_CONTRACT = 3;
    private static final int LEAST_DRAUGHT = 10, MOST_DRAUGHT = 150;
    private static final int MOST_MOVES = 100, MOVE_HOURS = 2, WAIT_HOURS = 3;
    private static final int PILOTS = 6, PILOT_HOURS = 6, DAY_HOURS = 24, MOVES_A_DAY = 3, PILOTS_OF_LOST = 2;
    private static final int TUGS = 6, TUG_HOURS = 3, SHIFT_HOURS = 8, SHIFTS = 3;
    private static final int PILOT_PAY = 50, TUG_PAY = 30, ENTRY_DUE = 100, BERTH_DUE = 5, CLAIM_WORTH = 80;

    private final Water water = new Water();
    private final Rota pilots = new Rota();
    private final Log log = new Log();
    private final ArrayList<Ship> ships = new ArrayList<>();
    private final OrderQueue orders = new OrderQueue();
    private int now = 0;
    private int tugSum = 0;
    private int portSum = 0;

    public HarborTides() {
    }

    // ---- water

    public int table(int hour, int depth) throws IndexOutOfBoundsException, IllegalArgumentException, IllegalStateException {
        checkPlace(hour, TABLE_HOURS);
        checkRange(depth, 0, MOST_TABLE_DEPTH);
        if (log.count() > 0) {
            throw new IllegalStateException("a move has begun");
        }
        int before = water.table[hour];
        water.table[hour] = depth;
        return before;
    }

    public int wind(int from, int hours, int surge) throws IllegalArgumentException {
        checkRange(from, now + NOTICE, LAST_TIDE);
        checkRange(hours, 1, MOST_WIND_HOURS);
        checkRange(surge, -MOST_SURGE, MOST_SURGE);
        int before = water.surges[from];
        water.tellSurge(from, hours, surge);
        return before;
    }

    public int depth(int hour) throws IllegalArgumentException {
        checkRange(hour, 0, LAST_TIDE);
        return water.depthAt(hour);
    }

    public int berth(int berth, int depth) throws IndexOutOfBoundsException, IllegalArgumentException, IllegalStateException {
        checkPlace(berth, BERTHS);
        checkRange(depth, 0, MOST_BERTH_DEPTH);
        if (log.hasMoveAt(berth)) {
            throw new IllegalStateException("a move has begun to or from the berth");
        }
        int before = water.berths[berth];
        water.berths[berth] = depth;
        return before;
    }

    // ---- ships and orders

    public int ship(int size, int draught, int contract, int berth) throws IndexOutOfBoundsException, IllegalArgumentException, IllegalStateException {
        checkPlace(berth, BERTHS);
        checkRange(size, 1, MOST_SIZE);
        checkRange(draught, LEAST_DRAUGHT, MOST_DRAUGHT);
        checkRange(contract, 0, MOST_CONTRACT);
        int number = ships.size();
        if (number >= MOST_SHIPS) {
            throw new IllegalStateException("there are as many ships as there may be");
        }
        ships.add(new Ship(number, size, draught, contract, berth));
        return number;
    }

    public int order(int ship, int hour) throws IndexOutOfBoundsException, IllegalArgumentException, IllegalStateException {
        Ship orderer = shipAt(ship);
        checkRange(hour, now + 1, LAST_HOUR);
        if (!orderer.canMove()) {
            throw new IllegalStateException("the ship is neither at sea nor moored");
        }
        if (orderer.hasOrder()) {
            throw new IllegalStateException("the ship has an order");
        }
        orderer.orderHour = hour;
        orders.insert(orderer);
        return orders.count();
    }

    public int cancel(int ship) throws IndexOutOfBoundsException, IllegalStateException {
        Ship orderer = shipAt(ship);
        if (!orderer.hasOrder()) {
            throw new IllegalStateException("the ship has no order");
        }
        int hour = orderer.orderHour;
        orders.drop(orderer);
        return hour;
    }

    public boolean hasWater(int ship, int hour) throws IndexOutOfBoundsException, IllegalArgumentException {
        Ship mover = shipAt(ship);
        checkRange(hour, 0, LAST_HOUR);
        return mover.canMove() && water.carries(mover, mover.state == MOORED, hour);
    }

    public int state(int ship) throws IndexOutOfBoundsException {
        return shipAt(ship).state;
    }

    public int queue(int ship) throws IndexOutOfBoundsException {
        return orders.placeOf(shipAt(ship));
    }

    public int pass(int hours) throws IllegalArgumentException, IllegalStateException {
        checkRange(hours, 1, MOST_HOURS);
        if (now + hours > LAST_HOUR) {
            throw new IllegalStateException("now would be above its last hour");
        }
        int before = log.count();
        for (int k = 0; k < hours; k++) {
            now++;
            endMoves();
            takeBerthDues();
            lookAtOrders();
        }
        return log.count() - before;
    }

    // ---- pilots and tugs

    public int swap(int pilot, int other) throws IndexOutOfBoundsException, IllegalArgumentException {
        checkPlace(pilot, PILOTS);
        checkPlace(other, PILOTS);
        if (pilot == other) {
            throw new IllegalArgumentException("both pilots are the same");
        }
        return pilots.exchange(pilot, other);
    }

    public int rota(int place) throws IndexOutOfBoundsException {
        checkPlace(place, PILOTS);
        return pilots.row[place];
    }

    public boolean isReady(int pilot) throws IndexOutOfBoundsException {
        checkPlace(pilot, PILOTS);
        return log.pilotIsReady(pilot, now, log.count());
    }

    public int tugs() {
        return log.readyTugs(now, log.count());
    }

    // ---- moves

    public int moves() {
        return log.count();
    }

    public int move(int move) throws IndexOutOfBoundsException {
        checkPlace(move, log.count());
        Move told = log.at(move);
        return 10000 * told.hour + 100 * told.ship.number + 10 * told.pilot + (told.out ? 1 : 0);
    }

    public boolean isSound(int move) throws IndexOutOfBoundsException {
        checkPlace(move, log.count());
        Move told = log.at(move);
        return water.carries(told.ship, told.out, told.hour)
            && (told.out || log.berthIsFree(told.ship.berth, told.hour, move))
            && log.pilotIsReady(told.pilot, told.hour, move)
            && (told.tugs & ~log.readyTugs(told.hour, move)) == 0;
    }

    // ---- pay

    public int paid(int ship) throws IndexOutOfBoundsException {
        return shipAt(ship).paid;
    }

    public int earned(int pilot) throws IndexOutOfBoundsException {
        checkPlace(pilot, PILOTS);
        return pilots.earnings[pilot];
    }

    public int tugPay() {
        return tugSum;
    }

    public int port() {
        return portSum;
    }

    public int lost(int ship) throws IndexOutOfBoundsException {
        return shipAt(ship).tidesLost;
    }

    public int claims(int ship) throws IndexOutOfBoundsException {
        return shipAt(ship).openClaims;
    }

    public int payClaim(int ship) throws IndexOutOfBoundsException, IllegalStateException {
        Ship claimant = shipAt(ship);
        if (claimant.openClaims == 0) {
            throw new IllegalStateException("the ship has no claim");
        }
        int worth = CLAIM_WORTH * claimant.size;
        claimant.openClaims--;
        payPort(claimant, -worth);
        return worth;
    }

    // ---- what the calls share

    private static void checkPlace(int place, int places) {
        if (place < 0 || place >= places) {
            throw new IndexOutOfBoundsException("there is no such number or place");
        }
    }

    private static void checkRange(int value, int least, int most) {
        if (value < least || value > most) {
            throw new IllegalArgumentException("an argument is out of its range");
        }
    }

    private Ship shipAt(int ship) {
        checkPlace(ship, ships.size());
        return ships.get(ship);
    }

    private void endMoves() {
        for (int k = 0; k < ships.size(); k++) {
            ships.get(k).endMove(now);
        }
    }

    private void takeBerthDues() {
        for (int k = 0; k < ships.size(); k++) {
            Ship ship = ships.get(k);
            if (ship.state == MOORED) {
                payPort(ship, BERTH_DUE * ship.size);
            }
        }
    }

    private void lookAtOrders() {
        int place = 0;
        for (int looks = orders.count(); looks > 0 && place < orders.count(); looks--) {
            Ship ship = orders.at(place);
            if (settles(ship)) {
                orders.drop(ship);
            } else {
                place++;
            }
        }
    }

    /** Tells whether the order of the ship is gone by this look at it. */
    private boolean settles(Ship ship) {
        int late = now - ship.orderHour;
        if (late < 0) {
            return false;
        }
        boolean out = ship.state == MOORED;
        boolean carried = water.carries(ship, out, now);
        if (late == 0 && !carried) {
            loseTide(ship);
            return true;
        }
        if (carried && begins(ship, out)) {
            return true;
        }
        if (late >= WAIT_HOURS) {
            ship.openClaims++;
            return true;
        }
        return false;
    }

    private void loseTide(Ship ship) {
        ship.tidesLost++;
        for (int place = 0; place < PILOTS_OF_LOST; place++) {
            payPilot(ship, pilots.row[place]);
        }
    }

    /** Begins the move of a ship that has water, and tells whether berth, pilot and tugs were there for it. */
    private boolean begins(Ship ship, boolean out) {
        if (log.count() >= MOST_MOVES) {
            return false;
        }
        if (!out && !berthIsFreeNow(ship.berth)) {
            return false;
        }
        int pilot = firstReadyPilot();
        int tugs = lowestOf(log.readyTugs(now, log.count()), ship.size);
        if (pilot == NONE || tugs == 0) {
            return false;
        }
        log.note(new Move(now, ship, out, pilot, tugs));
        pilots.sendLast(pilot);
        ship.beginMove(now, out);
        payPilot(ship, pilot);
        payTugs(ship);
        if (!out) {
            payPort(ship, ENTRY_DUE * ship.size);
        }
        return true;
    }

    private boolean berthIsFreeNow(int berth) {
        for (int k = 0; k < ships.size(); k++) {
            Ship ship = ships.get(k);
            if (ship.berth == berth && ship.state != AT_SEA && ship.state != GONE) {
                return false;
            }
        }
        return true;
    }

    private int firstReadyPilot() {
        for (int place = 0; place < PILOTS; place++) {
            int pilot = pilots.row[place];
            if (log.pilotIsReady(pilot, now, log.count())) {
                return pilot;
            }
        }
        return NONE;
    }

    /** The lowest tugs of a set, as many as wanted; the empty set if it has fewer. */
    private static int lowestOf(int set, int wanted) {
        int taken = 0;
        int missing = wanted;
        for (int tug = 0; tug < TUGS && missing > 0; tug++) {
            if ((set & (1 << tug)) != 0) {
                taken |= 1 << tug;
                missing--;
            }
        }
        return missing == 0 ? taken : 0;
    }

    private void payPilot(Ship ship, int pilot) {
        ship.paid += PILOT_PAY;
        pilots.earnings[pilot] += PILOT_PAY;
    }

    private void payTugs(Ship ship) {
        ship.paid += TUG_PAY * ship.size;
        tugSum += TUG_PAY * ship.size;
    }

    private void payPort(Ship ship, int sum) {
        ship.paid += sum;
        portSum += sum;
    }

    /** Tides of the table, surges of the winds, and the berths' depths. */
    private static final class Water {
        final int[] table = new int[TABLE_HOURS];
        final int[] surges = new int[LAST_TIDE + 1];
        final int[] berths = new int[BERTHS];

        Water() {
            Arrays.fill(table, TABLE_DEPTH);
            Arrays.fill(berths, BERTH_DEPTH);
        }

        // No call can ask for an hour behind LAST_TIDE, so a wind's hours behind it are not kept.
        void tellSurge(int from, int hours, int surge) {
            int end = Math.min(from + hours, surges.length);
            for (int hour = from; hour < end; hour++) {
                surges[hour] = surge;
            }
        }

        int depthAt(int hour) {
            return table[hour % TABLE_HOURS] + surges[hour];
        }

        boolean carries(Ship ship, boolean out, int hour) {
            int needed = ship.draught + UNDER_KEEL;
            int overBar = depthAt(out ? hour + 1 : hour) + BAR;
            int atBerth = depthAt(out ? hour : hour + 1) + berths[ship.berth];
            return overBar >= needed && atBerth >= needed;
        }
    }

    private static final class Ship {
        final int number;
        final int size;
        final int draught;
        final int contract;
        final int berth;
        int state = AT_SEA;
        int moveHour = NONE;
        int orderHour = NONE;
        int paid = 0;
        int tidesLost = 0;
        int openClaims = 0;

        Ship(int number, int size, int draught, int contract, int berth) {
            this.number = number;
            this.size = size;
            this.draught = draught;
            this.contract = contract;
            this.berth = berth;
        }

        boolean canMove() {
            return state == AT_SEA || state == MOORED;
        }

        boolean hasOrder() {
            return orderHour != NONE;
        }

        void beginMove(int hour, boolean out) {
            state = out ? GOING : COMING;
            moveHour = hour;
        }

        void endMove(int hour) {
            if (canMove() || state == GONE || hour - moveHour < MOVE_HOURS) {
                return;
            }
            state = state == COMING ? MOORED : GONE;
        }

        /** Tells whether the order of this ship is looked at ahead of that of another one. */
        boolean isAheadOf(Ship other) {
            if (contract != other.contract) {
                return contract > other.contract;
            }
            if (orderHour != other.orderHour) {
                return orderHour < other.orderHour;
            }
            return number < other.number;
        }
    }

    /** The ships that have an order, in the order in which their orders are looked at. */
    private static final class OrderQueue {
        private final ArrayList<Ship> row = new ArrayList<>();

        int count() {
            return row.size();
        }

        Ship at(int place) {
            return row.get(place);
        }

        void insert(Ship ship) {
            int place = 0;
            while (place < row.size() && row.get(place).isAheadOf(ship)) {
                place++;
            }
            row.add(place, ship);
        }

        void drop(Ship ship) {
            int place = placeOf(ship);
            if (place != NONE) {
                row.remove(place);
            }
            ship.orderHour = NONE;
        }

        int placeOf(Ship ship) {
            for (int place = 0; place < row.size(); place++) {
                if (row.get(place) == ship) {
                    return place;
                }
            }
            return NONE;
        }
    }

    /** The pilots in their row, and what each of them was paid. */
    private static final class Rota {
        final int[] row = new int[PILOTS];
        final int[] earnings = new int[PILOTS];

        Rota() {
            for (int place = 0; place < PILOTS; place++) {
                row[place] = place;
            }
        }

        /** Swaps two pilots and returns the place of the first of them then. */
        int exchange(int pilot, int other) {
            int placeThen = NONE;
            for (int place = 0; place < PILOTS; place++) {
                if (row[place] == pilot) {
                    row[place] = other;
                } else if (row[place] == other) {
                    row[place] = pilot;
                    placeThen = place;
                }
            }
            return placeThen;
        }

        void sendLast(int pilot) {
            int kept = 0;
            for (int place = 0; place < PILOTS; place++) {
                if (row[place] != pilot) {
                    row[kept] = row[place];
                    kept++;
                }
            }
            row[PILOTS - 1] = pilot;
        }
    }

    private static final class Move {
        final int hour;
        final Ship ship;
        final boolean out;
        final int pilot;
        final int tugs;

        Move(int hour, Ship ship, boolean out, int pilot, int tugs) {
            this.hour = hour;
            this.ship = ship;
            this.out = out;
            this.pilot = pilot;
            this.tugs = tugs;
        }
    }

    /**
     * The moves that have begun. Its questions are about an hour and the first moves of the log alone, so that
     * the same ones serve the present and, for isSound, the past.
     */
    private static final class Log {
        private final ArrayList<Move> begun = new ArrayList<>();

        int count() {
            return begun.size();
        }

        Move at(int move) {
            return begun.get(move);
        }

        void note(Move move) {
            begun.add(move);
        }

        boolean hasMoveAt(int berth) {
            for (int k = 0; k < begun.size(); k++) {
                if (begun.get(k).ship.berth == berth) {
                    return true;
                }
            }
            return false;
        }

        boolean pilotIsReady(int pilot, int hour, int first) {
            int today = 0;
            for (int k = Math.min(first, begun.size()) - 1; k >= 0; k--) {
                Move move = begun.get(k);
                int ago = hour - move.hour;
                if (ago >= DAY_HOURS) {
                    break;
                }
                if (move.pilot == pilot) {
                    if (ago < PILOT_HOURS) {
                        return false;
                    }
                    today++;
                }
            }
            return today < MOVES_A_DAY;
        }

        int readyTugs(int hour, int first) {
            int ready = tugsOnDuty(hour);
            for (int k = Math.min(first, begun.size()) - 1; k >= 0; k--) {
                Move move = begun.get(k);
                if (hour - move.hour >= TUG_HOURS) {
                    break;
                }
                ready &= ~move.tugs;
            }
            return ready;
        }

        private static int tugsOnDuty(int hour) {
            int onDuty = 0;
            for (int tug = 0; tug < TUGS; tug++) {
                if ((hour / SHIFT_HOURS + tug) % SHIFTS != 0) {
                    onDuty |= 1 << tug;
                }
            }
            return onDuty;
        }

        boolean berthIsFree(int berth, int hour, int first) {
            int within = 0;
            for (int k = 0; k < first && k < begun.size(); k++) {
                Move move = begun.get(k);
                if (move.ship.berth != berth) {
                    continue;
                }
                if (!move.out) {
                    within++;
                } else if (hour - move.hour >= MOVE_HOURS) {
                    within--;
                }
            }
            return within == 0;
        }
    }
}
