import java.util.ArrayList;
import java.util.Collections;
import java.util.Comparator;
import java.util.List;
import java.util.Map;
import java.util.TreeMap;

/**
 * The document once more, written without regard to speed: states, readiness and the queue are found anew
 * from the moves and orders each time they are asked for. HarborTides is compared with it.
 */
final class PortModel {
    record Berthing(int size, int draught, int contract, int berth) {
    }

    record Begun(int hour, int ship, int pilot, boolean out, List<Integer> tugs) {
    }

    private final int[] table = {50, 50, 50, 50, 50, 50, 50, 50, 50, 50, 50, 50};
    private final Map<Integer, Integer> surges = new TreeMap<>();
    private final int[] berths = {60, 60, 60, 60, 60, 60};
    private final List<Berthing> ships = new ArrayList<>();
    private final Map<Integer, Integer> orders = new TreeMap<>();
    private final List<Integer> row = new ArrayList<>(List.of(0, 1, 2, 3, 4, 5));
    private final List<Begun> begun = new ArrayList<>();
    private final int[] paid = new int[30];
    private final int[] lost = new int[30];
    private final int[] claims = new int[30];
    private final int[] earned = new int[6];
    private int tugPay = 0;
    private int port = 0;
    private int now = 0;

    int now() {
        return now;
    }

    int ships() {
        return ships.size();
    }

    private static void place(boolean there) {
        if (!there) {
            throw new IndexOutOfBoundsException();
        }
    }

    private static void range(boolean within) {
        if (!within) {
            throw new IllegalArgumentException();
        }
    }

    private static void state(boolean allowed) {
        if (!allowed) {
            throw new IllegalStateException();
        }
    }

    private boolean isShip(int ship) {
        return ship >= 0 && ship < ships.size();
    }

    int table(int hour, int depth) {
        place(hour >= 0 && hour <= 11);
        range(depth >= 0 && depth <= 150);
        state(begun.isEmpty());
        int before = table[hour];
        table[hour] = depth;
        return before;
    }

    int wind(int from, int hours, int surge) {
        range(from >= now + 3 && from <= 3100 && hours >= 1 && hours <= 48 && surge >= -40 && surge <= 40);
        int before = surges.getOrDefault(from, 0);
        for (int k = 0; k < hours; k++) {
            surges.put(from + k, surge);
        }
        return before;
    }

    int depth(int hour) {
        range(hour >= 0 && hour <= 3100);
        return table[hour % 12] + surges.getOrDefault(hour, 0);
    }

    int berth(int berth, int depth) {
        place(berth >= 0 && berth <= 5);
        range(depth >= 0 && depth <= 200);
        state(begun.stream().noneMatch(move -> ships.get(move.ship).berth == berth));
        int before = berths[berth];
        berths[berth] = depth;
        return before;
    }

    int ship(int size, int draught, int contract, int berth) {
        place(berth >= 0 && berth <= 5);
        range(size >= 1 && size <= 4 && draught >= 10 && draught <= 150 && contract >= 0 && contract <= 3);
        state(ships.size() < 30);
        ships.add(new Berthing(size, draught, contract, berth));
        return ships.size() - 1;
    }

    int order(int ship, int hour) {
        place(isShip(ship));
        range(hour > now && hour <= 3000);
        state(state(ship) == 0 || state(ship) == 2);
        state(!orders.containsKey(ship));
        orders.put(ship, hour);
        return orders.size();
    }

    int cancel(int ship) {
        place(isShip(ship));
        state(orders.containsKey(ship));
        return orders.remove(ship);
    }

    boolean hasWater(int ship, int hour) {
        place(isShip(ship));
        range(hour >= 0 && hour <= 3000);
        return state(ship) == 0 && water(ship, false, hour) || state(ship) == 2 && water(ship, true, hour);
    }

    private boolean water(int ship, boolean out, int hour) {
        int draught = ships.get(ship).draught;
        int berth = berths[ships.get(ship).berth];
        if (out) {
            return depth(hour) + berth - draught >= 5 && depth(hour + 1) + 30 - draught >= 5;
        }
        return depth(hour) + 30 - draught >= 5 && depth(hour + 1) + berth - draught >= 5;
    }

    int state(int ship) {
        place(isShip(ship));
        return stateAt(ship, now, begun.size());
    }

    /** The state of a ship at an hour, by the first of the moves. */
    private int stateAt(int ship, int hour, int first) {
        List<Begun> own = begun.subList(0, first).stream().filter(move -> move.ship == ship).toList();
        if (own.isEmpty()) {
            return 0;
        }
        boolean over = hour - own.get(own.size() - 1).hour >= 2;
        return own.size() == 1 ? (over ? 2 : 1) : (over ? 4 : 3);
    }

    private List<Integer> queue() {
        List<Integer> all = new ArrayList<>(orders.keySet());
        all.sort(Comparator.comparingInt((Integer ship) -> -ships.get(ship).contract)
            .thenComparingInt(orders::get).thenComparingInt(ship -> ship));
        return all;
    }

    int queue(int ship) {
        place(isShip(ship));
        return queue().indexOf(ship);
    }

    int pass(int hours) {
        range(hours >= 1 && hours <= 100);
        state(now + hours <= 3000);
        int before = begun.size();
        for (int k = 0; k < hours; k++) {
            passOne();
        }
        return begun.size() - before;
    }

    private void passOne() {
        now++;
        for (int ship = 0; ship < ships.size(); ship++) {
            if (state(ship) == 2) {
                toPort(ship, 5 * ships.get(ship).size);
            }
        }
        for (int ship : queue()) {
            if (orders.get(ship) <= now) {
                look(ship, orders.get(ship));
            }
        }
    }

    private void look(int ship, int hour) {
        boolean out = state(ship) == 2;
        if (hour == now && !water(ship, out, now)) {
            orders.remove(ship);
            lost[ship]++;
            toPilot(ship, row.get(0));
            toPilot(ship, row.get(1));
        } else if (mayBegin(ship, out)) {
            orders.remove(ship);
            begin(ship, out);
        } else if (hour == now - 3) {
            orders.remove(ship);
            claims[ship]++;
        }
    }

    private boolean mayBegin(int ship, boolean out) {
        return water(ship, out, now) && (out || berthFree(ships.get(ship).berth, now, begun.size()))
            && row.stream().anyMatch(pilot -> pilotReady(pilot, now, begun.size()))
            && tugsReady(now, begun.size()).size() >= ships.get(ship).size && begun.size() < 100;
    }

    private void begin(int ship, boolean out) {
        int size = ships.get(ship).size;
        int pilot = row.stream().filter(one -> pilotReady(one, now, begun.size())).findFirst().orElseThrow();
        List<Integer> tugs = List.copyOf(tugsReady(now, begun.size()).subList(0, size));
        begun.add(new Begun(now, ship, pilot, out, tugs));
        row.remove((Integer) pilot);
        row.add(pilot);
        toPilot(ship, pilot);
        paid[ship] += 30 * size;
        tugPay += 30 * size;
        if (!out) {
            toPort(ship, 100 * size);
        }
    }

    private boolean berthFree(int berth, int hour, int first) {
        for (int ship = 0; ship < ships.size(); ship++) {
            int state = stateAt(ship, hour, first);
            if (ships.get(ship).berth == berth && state >= 1 && state <= 3) {
                return false;
            }
        }
        return true;
    }

    private boolean pilotReady(int pilot, int hour, int first) {
        List<Integer> hours = begun.subList(0, first).stream().filter(move -> move.pilot == pilot).map(Begun::hour).toList();
        long ofTheDay = hours.stream().filter(one -> one >= hour - 23).count();
        return ofTheDay < 3 && (hours.isEmpty() || Collections.max(hours) + 6 <= hour);
    }

    private List<Integer> tugsReady(int hour, int first) {
        List<Integer> ready = new ArrayList<>();
        for (int tug = 0; tug < 6; tug++) {
            int one = tug;
            boolean taken = begun.subList(0, first).stream().anyMatch(move -> move.tugs.contains(one) && move.hour + 3 > hour);
            if ((hour / 8 + tug) % 3 != 0 && !taken) {
                ready.add(tug);
            }
        }
        return ready;
    }

    private void toPilot(int ship, int pilot) {
        paid[ship] += 50;
        earned[pilot] += 50;
    }

    private void toPort(int ship, int sum) {
        paid[ship] += sum;
        port += sum;
    }

    int swap(int pilot, int other) {
        place(pilot >= 0 && pilot <= 5 && other >= 0 && other <= 5);
        range(pilot != other);
        Collections.swap(row, row.indexOf(pilot), row.indexOf(other));
        return row.indexOf(pilot);
    }

    int rota(int place) {
        place(place >= 0 && place <= 5);
        return row.get(place);
    }

    boolean isReady(int pilot) {
        place(pilot >= 0 && pilot <= 5);
        return pilotReady(pilot, now, begun.size());
    }

    int tugs() {
        int set = 0;
        for (int tug : tugsReady(now, begun.size())) {
            set += 1 << tug;
        }
        return set;
    }

    int moves() {
        return begun.size();
    }

    int move(int move) {
        place(move >= 0 && move < begun.size());
        Begun told = begun.get(move);
        return 10000 * told.hour + 100 * told.ship + 10 * told.pilot + (told.out ? 1 : 0);
    }

    boolean isSound(int move) {
        place(move >= 0 && move < begun.size());
        Begun told = begun.get(move);
        return water(told.ship, told.out, told.hour)
            && (told.out || berthFree(ships.get(told.ship).berth, told.hour, move))
            && pilotReady(told.pilot, told.hour, move) && tugsReady(told.hour, move).containsAll(told.tugs);
    }

    int paid(int ship) {
        place(isShip(ship));
        return paid[ship];
    }

    int earned(int pilot) {
        place(pilot >= 0 && pilot <= 5);
        return earned[pilot];
    }

    int tugPay() {
        return tugPay;
    }

    int port() {
        return port;
    }

    int lost(int ship) {
        place(isShip(ship));
        return lost[ship];
    }

    int claims(int ship) {
        place(isShip(ship));
        return claims[ship];
    }

    int payClaim(int ship) {
        place(isShip(ship));
        state(claims[ship] > 0);
        int worth = 80 * ships.get(ship).size;
        claims[ship]--;
        toPort(ship, -worth);
        return worth;
    }
}
