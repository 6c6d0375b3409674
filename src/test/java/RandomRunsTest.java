import java.util.Random;

/** Long mixed runs with fixed seeds, each answer compared with the model's. */
public final class RandomRunsTest {
    private static final int RUNS = 4000;
    private static final int CALLS = 512;
    private static final int LAST_LOOK = 66;

    private final Expect expect = new Expect("RandomRunsTest");
    private ParityArray array;
    private Model model;
    private Random random;
    private String run;

    public static void main(String[] args) {
        RandomRunsTest test = new RandomRunsTest();
        for (int seed = 1; seed <= RUNS && !test.expect.failed(); seed++) {
            test.runWith(seed);
        }
        test.expect.end();
    }

    private void runWith(int seed) {
        array = new ParityArray();
        model = new Model();
        random = new Random(seed);
        // Few stripes make calls meet in one; those near 0 get rebuilt early, the others late or never.
        int stripes = new int[] {1, 3, 10, 150}[seed % 4];
        int firstStripe = random.nextInt(151 - stripes);
        if (seed % 3 == 0) {
            firstStripe = 0;
        }
        int mixed = CALLS - LAST_LOOK;
        int made = 0;
        while (made < mixed) {
            run = "seed " + seed + " call " + (made + 1) + ": ";
            made += callOne(firstStripe, stripes, mixed - made);
        }
        run = "seed " + seed + " last look: ";
        lookAtStripe(firstStripe + random.nextInt(stripes));
    }

    /** Switches the power on, whatever was planned, and reads every long of a stripe. */
    private void lookAtStripe(int s) {
        callRecover();
        callRecover();
        for (int n = 4 * s; n < 4 * s + 4; n++) {
            for (int i = 0; i < 16; i++) {
                readBoth(n, i);
            }
        }
    }

    /** Makes one call, or a row of rebuilds: how many. */
    private int callOne(int firstStripe, int stripes, int left) {
        int n = 4 * (firstStripe + random.nextInt(stripes)) + random.nextInt(4);
        int i = random.nextInt(16);
        switch (random.nextInt(20)) {
            case 0: case 1: case 2: case 3: case 4: case 5:
                callSet(n, i);
                return 1;
            case 6: case 7: case 8: case 9:
                callGet(n, i);
                return 1;
            case 10: case 11:
                callPower(i);
                return 1;
            case 12: case 13: case 14:
                callRecover();
                return 1;
            case 15:
                int d = random.nextInt(30) == 0 ? random.nextInt(9) - 2 : random.nextInt(5);
                same("die(" + d + ")", () -> { array.die(d); return 0; }, () -> { model.die(d); return 0; });
                return 1;
            case 16:
                same("replace()", array::replace, model::replace);
                return 1;
            case 17:
                return callRebuilds(Math.min(left, random.nextInt(4) == 0 ? 150 : 1 + random.nextInt(3)));
            case 18:
                int what = random.nextInt(6) - 1;
                same("told(" + what + ")", () -> array.told(what), () -> model.told(what));
                return 1;
            default:
                same("check()", array::check, model::check);
                return 1;
        }
    }

    private void callSet(int block, int place) {
        int n = random.nextInt(40) == 0 ? random.nextInt(620) - 10 : block;
        int i = random.nextInt(40) == 0 ? random.nextInt(20) - 2 : place;
        long w = random.nextInt(5) == 0 ? -1 : random.nextLong();
        same("set(" + n + ", " + i + ", " + w + ")", () -> array.set(n, i, w), () -> model.set(n, i, w));
    }

    private void callGet(int block, int place) {
        int n = random.nextInt(40) == 0 ? random.nextInt(620) - 10 : block;
        int i = random.nextInt(40) == 0 ? random.nextInt(20) - 2 : place;
        readBoth(n, i);
    }

    private void readBoth(int n, int i) {
        same("get(" + n + ", " + i + ")", () -> array.get(n, i), () -> model.get(n, i));
    }

    private void callRecover() {
        same("recover()", () -> { array.recover(); return 0; }, () -> { model.recover(); return 0; });
    }

    private void callPower(int place) {
        int k = random.nextInt(4) == 0 ? random.nextInt(15) - 2 : random.nextInt(4);
        int b = random.nextInt(3) == 0 ? random.nextInt(220) - 10 : 8 * place + random.nextInt(9);
        boolean recover = random.nextInt(3) == 0;
        same("power(" + k + ", " + b + ", " + recover + ")",
            () -> { array.power(k, b, recover); return 0; },
            () -> { model.power(k, b, recover); return 0; });
    }

    private int callRebuilds(int times) {
        for (int t = 0; t < times; t++) {
            same("rebuild()", array::rebuild, model::rebuild);
        }
        return times;
    }

    private void same(String what, Expect.Call call, Expect.Call due) {
        expect.judge(run + what, Expect.outcome(due), Expect.outcome(call));
    }
}
