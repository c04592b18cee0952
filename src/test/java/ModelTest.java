import java.util.Random;

/** All promises at once: long runs of calls, always the same ones, against the ModelLedger. */
public final class ModelTest {
    private static final int RUNS = 8000;
    /** The acts' calls and those that compare the end stay within the 512 that are promised. */
    private static final int CALLS_OF_ACTS = 355;
    private static final int MOST_CALLS = 512;
    private static final String[] NAMES = {"lay", "lose", "share", "size", "look", "put", "turn", "days",
        "meadow", "join", "cut", "width", "see", "tend"};
    /** How many of 100 calls are of each act; the rest ask fault() and count(). */
    private static final int[] SHARES = {9, 2, 4, 2, 14, 9, 18, 5, 3, 5, 2, 4, 8, 10};

    private final String name;
    private final HiveLedger ledger = new HiveLedger();
    private final ModelLedger model = new ModelLedger();
    private final Random random;
    /** How rare wrong arguments are; some runs have hardly any, so that much stands in them. */
    private final int rare;
    private int calls = 0;

    private ModelTest(int seed) {
        name = "run " + seed + ": ";
        random = new Random(seed);
        rare = 5 << random.nextInt(6);
    }

    public static void main(String[] args) {
        for (int run = 0; run < RUNS && Due.wrongSoFar() < 20; run++) {
            new ModelTest(run).run();
        }
        Due.end();
    }

    private void run() {
        boolean asksEachFault = random.nextBoolean();
        if (random.nextBoolean()) {
            layAll();
        }
        while (calls < CALLS_OF_ACTS && Due.wrongSoFar() < 20) {
            int which = act();
            if (which == NAMES.length) {
                compareCount(random.nextInt(14) - 2);
                compareFault();
            } else {
                compareAct(which, arguments(which));
                if (asksEachFault) {
                    compareFault();
                }
            }
        }
        compareEnd();
        Due.due(name + "calls beyond the promised", calls > MOST_CALLS ? calls : 0, 0);
    }

    private void layAll() {
        for (int i = 0; i < 10; i++) {
            compareAct(0, i % 2, i / 2, 24 - i % 3);
        }
        for (int i = 0; i < 4; i++) {
            compareAct(8, i, 3 + i, 4);
        }
    }

    private void compareAct(int which, int... a) {
        calls++;
        String call = name + NAMES[which] + java.util.Arrays.toString(a);
        Due.due(call, done(ledger, which, a), model.act(which, a));
    }

    private void compareFault() {
        calls++;
        Due.due(name + "fault()", ledger.fault(), model.latest());
    }

    private void compareCount(int what) {
        calls++;
        Due.due(name + "count(" + what + ")", ledger.count(what), model.counted(what));
    }

    private void compareEnd() {
        compareFault();
        for (int what = -1; what <= 10; what++) {
            compareCount(what);
        }
        for (int place = 0; place < 10; place++) {
            for (int cell = 0; cell < 4; cell++) {
                compareAct(4, place % 2, place / 2, cell);
            }
        }
        for (int bed = 0; bed < 16; bed++) {
            for (int cell = 0; cell < 6; cell++) {
                compareAct(12, bed % 4, bed / 4, cell);
            }
        }
    }

    private int act() {
        int pick = random.nextInt(100);
        for (int which = 0; which < SHARES.length; which++) {
            pick -= SHARES[which];
            if (pick < 0) {
                return which;
            }
        }
        return NAMES.length;
    }

    private int[] arguments(int which) {
        switch (which) {
            case 0: return new int[] {below(2), below(5), random.nextInt(3) == 0 ? 24 : below(25)};
            case 1: case 2: case 3: return new int[] {below(2), below(5)};
            case 4: return new int[] {below(2), below(5), cell()};
            case 5: return new int[] {below(2), below(5), cell(), number()};
            case 6: return new int[] {below(2), random.nextInt(3) == 0 ? 2 : below(5), cell(), below(13), number()};
            case 7: return new int[] {below(2), cell(), below(25)};
            case 8: return new int[] {below(4), below(21), below(21)};
            case 9: return new int[] {below(4), bed(), below(4), bed()};
            case 10: return new int[] {below(4), random.nextInt(4) == 0 ? -1 : bed()};
            case 11: return new int[] {below(4), random.nextInt(3) == 0 ? -1 : bed()};
            case 12: return new int[] {below(4), bed(), bed()};
            default: return new int[] {below(4), bed(), bed(), below(13), number()};
        }
    }

    private int below(int bound) {
        if (random.nextInt(rare) != 0) {
            return random.nextInt(bound);
        }
        int[] wrong = {-1, bound, bound + 1, -bound, Due.MIN, Due.MAX, random.nextInt()};
        return wrong[random.nextInt(wrong.length)];
    }

    /** Few cells are used most, so that much comes to happen in each. */
    private int cell() {
        return random.nextInt(3) == 0 ? below(24) : random.nextInt(2);
    }

    private int bed() {
        return random.nextInt(3) == 0 ? below(20) : random.nextInt(3);
    }

    private int number() {
        switch (random.nextInt(8)) {
            case 0: return 0;
            case 1: return random.nextInt();
            case 2: return random.nextBoolean() ? Due.MIN : Due.MAX;
            case 3: return 1 << random.nextInt(32);
            case 4: return random.nextInt(1 << 17) - (1 << 16);
            default: return random.nextInt(41) - 20;
        }
    }

    private static int done(HiveLedger x, int which, int[] a) {
        switch (which) {
            case 0: return x.lay(a[0], a[1], a[2]);
            case 1: return x.lose(a[0], a[1]);
            case 2: return x.share(a[0], a[1]);
            case 3: return x.size(a[0], a[1]);
            case 4: return x.look(a[0], a[1], a[2]);
            case 5: return x.put(a[0], a[1], a[2], a[3]);
            case 6: return x.turn(a[0], a[1], a[2], a[3], a[4]);
            case 7: return x.days(a[0], a[1], a[2]);
            case 8: return x.meadow(a[0], a[1], a[2]);
            case 9: return x.join(a[0], a[1], a[2], a[3]);
            case 10: return x.cut(a[0], a[1]);
            case 11: return x.width(a[0], a[1]);
            case 12: return x.see(a[0], a[1], a[2]);
            default: return x.tend(a[0], a[1], a[2], a[3], a[4]);
        }
    }
}
