import java.util.Random;
import java.util.function.IntSupplier;

/**
 * Promises 1 to 26 together: runs of up to 512 calls, drawn with fixed seeds, each answer and each exception
 * compared with PortModel's, and now and then (always behind a call that threw) all that can be seen of both.
 */
public final class ModelTest {
    private static final int RUNS = 400;
    private static final int CALLS = 512;
    private static final int[] STRANGE = {-1, 0, 1, 5, 6, 11, 12, 29, 30, 48, 49, 100, 101, 150, 151, 200, 201, 3000, 3001,
        3100, 3101, Integer.MAX_VALUE, Integer.MIN_VALUE};

    private final Random random;
    private final HarborTides port = new HarborTides();
    private final PortModel model = new PortModel();
    private final int hurry;
    private final int deepest;
    private final StringBuilder told = new StringBuilder();
    private boolean threw;

    private static long moves;
    private static long lost;
    private static long claims;
    private static long thrown;

    private ModelTest(int seed) {
        random = new Random(seed);
        hurry = 1 + random.nextInt(4);
        deepest = 30 + random.nextInt(121);
    }

    public static void main(String[] args) {
        for (int seed = 0; seed < RUNS; seed++) {
            new ModelTest(seed).run(seed);
        }
        System.out.println("  " + moves + " moves, " + lost + " tides lost, " + claims + " claims, " + thrown + " exceptions");
        Check.due("the runs have moves, lost tides, claims and exceptions",
            moves > RUNS && lost > RUNS && claims > RUNS && thrown > RUNS, true);
        Check.end();
    }

    private void run(int seed) {
        for (int call = 0; call < CALLS; call++) {
            boolean same = call(seed);
            if (same && (threw || call % 16 == 0 || call == CALLS - 1)) {
                same = sameView(seed);
            }
            if (!same) {
                return;
            }
        }
        moves += model.moves();
        for (int ship = 0; ship < model.ships(); ship++) {
            lost += model.lost(ship);
            claims += model.claims(ship);
        }
    }

    private int upTo(int most) {
        return random.nextInt(most + 1);
    }

    /** A number of the range, seldom one of its edges or far outside it. */
    private int within(int least, int most) {
        int drawn = random.nextInt(60);
        if (drawn == 0) {
            return STRANGE[random.nextInt(STRANGE.length)];
        }
        if (drawn == 1) {
            return random.nextBoolean() ? least - 1 : most + 1;
        }
        if (drawn < 5 || most <= least) {
            return random.nextBoolean() ? least : most;
        }
        return least + random.nextInt(most - least + 1);
    }

    private int aShip() {
        return within(0, Math.max(0, model.ships() - 1));
    }

    private boolean call(int seed) {
        int kind = random.nextInt(100);
        if (kind < 8) {
            return waterCall(seed);
        }
        if (kind < 16 || model.ships() < 4) {
            int size = within(1, 4);
            int draught = within(10, random.nextInt(4) == 0 ? 150 : deepest);
            int contract = within(0, 3);
            int berth = within(0, 5);
            return same(seed, "ship(" + size + ", " + draught + ", " + contract + ", " + berth + ")",
                () -> port.ship(size, draught, contract, berth), () -> model.ship(size, draught, contract, berth));
        }
        if (kind < 48) {
            int ship = aShip();
            int hour = within(model.now() + 1, model.now() + 1 + upTo(4 * hurry));
            return same(seed, "order(" + ship + ", " + hour + ")", () -> port.order(ship, hour), () -> model.order(ship, hour));
        }
        if (kind < 72) {
            int hours = random.nextInt(20) == 0 ? within(1, 100) : within(1, 2 * hurry);
            return same(seed, "pass(" + hours + ")", () -> port.pass(hours), () -> model.pass(hours));
        }
        if (kind < 80) {
            return changeCall(seed);
        }
        return readCall(seed);
    }

    private boolean waterCall(int seed) {
        int kind = random.nextInt(4);
        if (kind == 0) {
            int hour = within(0, 11);
            int depth = within(0, 150);
            return same(seed, "table(" + hour + ", " + depth + ")", () -> port.table(hour, depth), () -> model.table(hour, depth));
        }
        if (kind == 1) {
            int berth = within(0, 5);
            int depth = within(0, 200);
            return same(seed, "berth(" + berth + ", " + depth + ")", () -> port.berth(berth, depth), () -> model.berth(berth, depth));
        }
        int from = within(model.now() + 3, random.nextInt(5) == 0 ? 3100 : model.now() + 3 + upTo(20));
        int hours = within(1, 48);
        int surge = within(-40, 40);
        return same(seed, "wind(" + from + ", " + hours + ", " + surge + ")",
            () -> port.wind(from, hours, surge), () -> model.wind(from, hours, surge));
    }

    private boolean changeCall(int seed) {
        int kind = random.nextInt(3);
        int ship = aShip();
        if (kind == 0) {
            return same(seed, "cancel(" + ship + ")", () -> port.cancel(ship), () -> model.cancel(ship));
        }
        if (kind == 1) {
            return same(seed, "payClaim(" + ship + ")", () -> port.payClaim(ship), () -> model.payClaim(ship));
        }
        int pilot = within(0, 5);
        int other = within(0, 5);
        return same(seed, "swap(" + pilot + ", " + other + ")", () -> port.swap(pilot, other), () -> model.swap(pilot, other));
    }

    private boolean readCall(int seed) {
        int ship = aShip();
        int hour = within(0, 3000);
        int place = within(0, 5);
        int move = within(0, Math.max(0, model.moves() - 1));
        return same(seed, "depth(" + hour + ")", () -> port.depth(hour), () -> model.depth(hour))
            && same(seed, "hasWater(" + ship + ", " + hour + ")",
                () -> bit(port.hasWater(ship, hour)), () -> bit(model.hasWater(ship, hour)))
            && same(seed, "rota(" + place + ")", () -> port.rota(place), () -> model.rota(place))
            && same(seed, "isReady(" + place + ")", () -> bit(port.isReady(place)), () -> bit(model.isReady(place)))
            && same(seed, "earned(" + place + ")", () -> port.earned(place), () -> model.earned(place))
            && same(seed, "move(" + move + ")", () -> port.move(move), () -> model.move(move))
            && same(seed, "isSound(" + move + ")", () -> bit(port.isSound(move)), () -> bit(model.isSound(move)))
            && shipReads(seed, ship);
    }

    private boolean shipReads(int seed, int ship) {
        return same(seed, "state(" + ship + ")", () -> port.state(ship), () -> model.state(ship))
            && same(seed, "queue(" + ship + ")", () -> port.queue(ship), () -> model.queue(ship))
            && same(seed, "paid(" + ship + ")", () -> port.paid(ship), () -> model.paid(ship))
            && same(seed, "lost(" + ship + ")", () -> port.lost(ship), () -> model.lost(ship))
            && same(seed, "claims(" + ship + ")", () -> port.claims(ship), () -> model.claims(ship));
    }

    private static int bit(boolean answer) {
        return answer ? 1 : 0;
    }

    private boolean sameView(int seed) {
        boolean same = same(seed, "tugs()", port::tugs, model::tugs) && same(seed, "moves()", port::moves, model::moves)
            && same(seed, "tugPay()", port::tugPay, model::tugPay) && same(seed, "port()", port::port, model::port);
        for (int ship = 0; same && ship < model.ships(); ship++) {
            int one = ship;
            int hour = Math.min(3000, model.now() + 1 + random.nextInt(12));
            same = shipReads(seed, ship) && same(seed, "hasWater(" + one + ", " + hour + ")",
                () -> bit(port.hasWater(one, hour)), () -> bit(model.hasWater(one, hour)));
        }
        for (int place = 0; same && place < 6; place++) {
            int one = place;
            same = same(seed, "rota(" + one + ")", () -> port.rota(one), () -> model.rota(one))
                && same(seed, "isReady(" + one + ")", () -> bit(port.isReady(one)), () -> bit(model.isReady(one)))
                && same(seed, "earned(" + one + ")", () -> port.earned(one), () -> model.earned(one));
        }
        for (int hour = model.now(); same && hour <= Math.min(3100, model.now() + 60); hour++) {
            int one = hour;
            same = same(seed, "depth(" + one + ")", () -> port.depth(one), () -> model.depth(one));
        }
        return same;
    }

    private boolean same(int seed, String call, IntSupplier got, IntSupplier want) {
        String due = answer(want);
        threw = due.startsWith("throws");
        thrown += threw ? 1 : 0;
        String given = answer(got);
        told.append("  ").append(call).append(" -> ").append(due).append('\n');
        Check.due("run " + seed + ": " + call, given, due);
        if (!given.equals(due)) {
            System.out.print(told.substring(Math.max(0, told.length() - 4000)));
        }
        return given.equals(due);
    }

    private static String answer(IntSupplier call) {
        try {
            return Integer.toString(call.getAsInt());
        } catch (RuntimeException e) {
            return "throws." + Check.told(e);
        }
    }
}
