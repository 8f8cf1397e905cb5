import java.util.List;
import java.util.Random;
import java.util.function.IntSupplier;

/**
 * Promises 1 to 26 together: runs of 512 calls, as many as an object is promised, drawn with fixed seeds, each
 * answer and each exception compared with PortModel's. What the port holds is compared with what it held ahead
 * of each call that threw. The last calls of a run read alone.
 */
public final class ModelTest {
    private static final int RUNS = 1000;
    private static final int CALLS = 512;
    private static final int READS_AT_THE_END = 100;
    private static final int[] STRANGE = {-1, 0, 1, 5, 6, 11, 12, 29, 30, 48, 49, 100, 101, 150, 151, 200, 201, 3000, 3001,
        3100, 3101, Integer.MAX_VALUE, Integer.MIN_VALUE};

    private final Random random;
    private final HarborTides port = new HarborTides();
    private final PortModel model = new PortModel();
    private final int hurry;
    private final int deepest;
    private final StringBuilder told = new StringBuilder();
    private int made = 0;

    private static long moves;
    private static long lost;
    private static long claims;
    private static long thrown;

    private ModelTest(int seed) {
        random = new Random(seed);
        hurry = 1 + random.nextInt(4);
        deepest = 30 + random.nextInt(121);
    }

    public static void main(String[] args) {
        for (int seed = 0; seed < RUNS; seed++) {
            new ModelTest(seed).run(seed);
        }
        System.out.println("  " + moves + " moves, " + lost + " tides lost, " + claims + " claims, " + thrown + " exceptions");
        Check.due("the runs have moves, lost tides, claims and exceptions",
            moves > RUNS && lost > RUNS && claims > RUNS && thrown > RUNS, true);
        Check.end();
    }

    private void run(int seed) {
        while (made < CALLS) {
            boolean same = made < CALLS - READS_AT_THE_END ? call(seed) : readCall(seed);
            if (!same) {
                return;
            }
        }
        moves += model.moves();
        for (int ship = 0; ship < model.ships(); ship++) {
            lost += model.lost(ship);
            claims += model.claims(ship);
        }
    }

    private int upTo(int most) {
        return random.nextInt(most + 1);
    }

    /** A number of the range, seldom one of its edges or far outside it. */
    private int within(int least, int most) {
        int drawn = random.nextInt(60);
        if (drawn == 0) {
            return STRANGE[random.nextInt(STRANGE.length)];
        }
        if (drawn == 1) {
            return random.nextBoolean() ? least - 1 : most + 1;
        }
        if (drawn < 5 || most <= least) {
            return random.nextBoolean() ? least : most;
        }
        return least + random.nextInt(most - least + 1);
    }

    private int aShip() {
        return within(0, Math.max(0, model.ships() - 1));
    }

    private boolean call(int seed) {
        int kind = random.nextInt(100);
        if (kind < 8) {
            return waterCall(seed);
        }
        if (kind < 16 || model.ships() < 4) {
            int size = within(1, 4);
            int draught = within(10, random.nextInt(4) == 0 ? 150 : deepest);
            int contract = within(0, 3);
            int berth = within(0, 5);
            return same(seed, "ship(" + size + ", " + draught + ", " + contract + ", " + berth + ")",
                () -> port.ship(size, draught, contract, berth), () -> model.ship(size, draught, contract, berth));
        }
        if (kind < 48) {
            int ship = aShip();
            int hour = within(model.now() + 1, model.now() + 1 + upTo(4 * hurry));
            return same(seed, "order(" + ship + ", " + hour + ")", () -> port.order(ship, hour), () -> model.order(ship, hour));
        }
        if (kind < 72) {
            int hours = random.nextInt(20) == 0 ? within(1, 100) : within(1, 2 * hurry);
            return same(seed, "pass(" + hours + ")", () -> port.pass(hours), () -> model.pass(hours));
        }
        if (kind < 80) {
            return changeCall(seed);
        }
        return readCall(seed);
    }

    private boolean waterCall(int seed) {
        int kind = random.nextInt(4);
        if (kind == 0) {
            int hour = within(0, 11);
            int depth = within(0, 150);
            return same(seed, "table(" + hour + ", " + depth + ")", () -> port.table(hour, depth), () -> model.table(hour, depth));
        }
        if (kind == 1) {
            int berth = within(0, 5);
            int depth = within(0, 200);
            return same(seed, "berth(" + berth + ", " + depth + ")", () -> port.berth(berth, depth), () -> model.berth(berth, depth));
        }
        int from = within(model.now() + 3, random.nextInt(5) == 0 ? 3100 : model.now() + 3 + upTo(20));
        int hours = within(1, 48);
        int surge = within(-40, 40);
        return same(seed, "wind(" + from + ", " + hours + ", " + surge + ")",
            () -> port.wind(from, hours, surge), () -> model.wind(from, hours, surge));
    }

    private boolean changeCall(int seed) {
        int kind = random.nextInt(3);
        int ship = aShip();
        if (kind == 0) {
            return same(seed, "cancel(" + ship + ")", () -> port.cancel(ship), () -> model.cancel(ship));
        }
        if (kind == 1) {
            return same(seed, "payClaim(" + ship + ")", () -> port.payClaim(ship), () -> model.payClaim(ship));
        }
        int pilot = within(0, 5);
        int other = within(0, 5);
        return same(seed, "swap(" + pilot + ", " + other + ")", () -> port.swap(pilot, other), () -> model.swap(pilot, other));
    }

    private boolean readCall(int seed) {
        int kind = random.nextInt(16);
        if (kind < 9) {
            return shipRead(seed, kind, aShip());
        }
        if (kind < 13) {
            return pilotOrWaterRead(seed, kind);
        }
        int move = within(0, Math.max(0, model.moves() - 1));
        if (kind == 13) {
            return same(seed, "move(" + move + ")", () -> port.move(move), () -> model.move(move));
        }
        if (kind == 14) {
            return same(seed, "isSound(" + move + ")", () -> bit(port.isSound(move)), () -> bit(model.isSound(move)));
        }
        return sumRead(seed);
    }

    private boolean shipRead(int seed, int kind, int ship) {
        if (kind < 4) {
            int hour = within(0, random.nextBoolean() ? 3000 : model.now() + 12);
            return same(seed, "hasWater(" + ship + ", " + hour + ")",
                () -> bit(port.hasWater(ship, hour)), () -> bit(model.hasWater(ship, hour)));
        }
        if (kind == 4) {
            return same(seed, "state(" + ship + ")", () -> port.state(ship), () -> model.state(ship));
        }
        if (kind == 5) {
            return same(seed, "queue(" + ship + ")", () -> port.queue(ship), () -> model.queue(ship));
        }
        if (kind == 6) {
            return same(seed, "paid(" + ship + ")", () -> port.paid(ship), () -> model.paid(ship));
        }
        if (kind == 7) {
            return same(seed, "lost(" + ship + ")", () -> port.lost(ship), () -> model.lost(ship));
        }
        return same(seed, "claims(" + ship + ")", () -> port.claims(ship), () -> model.claims(ship));
    }

    private boolean pilotOrWaterRead(int seed, int kind) {
        int place = within(0, 5);
        if (kind == 9) {
            return same(seed, "rota(" + place + ")", () -> port.rota(place), () -> model.rota(place));
        }
        if (kind == 10) {
            return same(seed, "isReady(" + place + ")", () -> bit(port.isReady(place)), () -> bit(model.isReady(place)));
        }
        if (kind == 11) {
            return same(seed, "earned(" + place + ")", () -> port.earned(place), () -> model.earned(place));
        }
        int hour = within(0, random.nextBoolean() ? 3100 : Math.min(3100, model.now() + 60));
        return same(seed, "depth(" + hour + ")", () -> port.depth(hour), () -> model.depth(hour));
    }

    private boolean sumRead(int seed) {
        int kind = random.nextInt(4);
        if (kind == 0) {
            return same(seed, "tugs()", port::tugs, model::tugs);
        }
        if (kind == 1) {
            return same(seed, "moves()", port::moves, model::moves);
        }
        return kind == 2 ? same(seed, "tugPay()", port::tugPay, model::tugPay) : same(seed, "port()", port::port, model::port);
    }

    private static int bit(boolean answer) {
        return answer ? 1 : 0;
    }

    private boolean same(int seed, String call, IntSupplier got, IntSupplier want) {
        made++;
        String due = answer(want);
        boolean throwing = due.startsWith("throws");
        thrown += throwing ? 1 : 0;
        List<Object> before = throwing ? Inside.all(port) : List.of();
        String given = answer(got);
        told.append("  ").append(call).append(" -> ").append(due).append('\n');
        Check.due("run " + seed + ": " + call, given, due);
        boolean unchanged = !throwing || Inside.all(port).equals(before);
        Check.due("run " + seed + ": nothing is changed by " + call, unchanged, true);
        if (!given.equals(due) || !unchanged) {
            System.out.print(told.substring(Math.max(0, told.length() - 4000)));
        }
        return given.equals(due) && unchanged;
    }

    private static String answer(IntSupplier call) {
        try {
            return Integer.toString(call.getAsInt());
        } catch (RuntimeException e) {
            return "throws." + Check.told(e);
        }
    }
}
