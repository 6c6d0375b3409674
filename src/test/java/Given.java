/** Objects in the states that the tests begin from, and ways from one state to another. */
final class Given {
    static final long OLD = 0x1112131415161718L;
    static final long NEW = 0xa1a2a3a4a5a6a7a8L;
    /** Four bytes of NEW, behind them four of OLD. */
    static final long HALF = 0xa1a2a3a415161718L;
    /** The bytes of a block that come with HALF of its LONG 3 (bytes 24 to 31). */
    static final int TO_HALF = 28;

    private Given() {
    }

    static ParityArray dead(int d) {
        ParityArray x = new ParityArray();
        x.die(d);
        return x;
    }

    /** Disk d is NEW, and so many of its stripes are rebuilt. */
    static ParityArray renewed(int d, int rebuilt) {
        ParityArray x = dead(d);
        x.replace();
        rebuild(x, rebuilt);
        return x;
    }

    static ParityArray off() {
        ParityArray x = new ParityArray();
        cutSet(x, 0, 0, NEW, 0, 0);
        return x;
    }

    /** Off since a recover was cut, not a set. */
    static ParityArray offByRecover() {
        ParityArray x = new ParityArray();
        x.set(0, 0, OLD);
        cutRecover(x, 0, 0);
        return x;
    }

    static void rebuild(ParityArray x, int times) {
        for (int t = 0; t < times; t++) {
            x.rebuild();
        }
    }

    static void cutSet(ParityArray x, int n, int i, long w, int k, int b) {
        x.power(k, b, false);
        mustFail(() -> x.set(n, i, w), "set");
    }

    static void cutRecover(ParityArray x, int k, int b) {
        x.power(k, b, true);
        mustFail(x::recover, "recover");
    }

    private static void mustFail(Runnable call, String name) {
        try {
            call.run();
        } catch (ArithmeticException e) {
            return;
        }
        throw new RuntimeException("no ArithmeticException: power did not fail in " + name);
    }

    /** Gives LONG i of each block of stripe s a value of its own. */
    static void fillStripe(ParityArray x, int s, int i) {
        for (int n = 4 * s; n < 4 * s + 4; n++) {
            x.set(n, i, valueOf(n));
        }
    }

    static long valueOf(int n) {
        return OLD * (n + 1);
    }

    /**
     * Whether the parity of stripe s is THERE: only then is the first write of a set a record, so that
     * nothing of the block is written if power fails in that. It makes five calls.
     */
    static int parityThere(ParityArray x, int s) {
        x.set(4 * s, 3, OLD);
        cutSet(x, 4 * s, 3, NEW, 0, 200);
        x.recover();
        return x.get(4 * s, 3) == OLD ? 1 : 0;
    }

    /** So many bytes of the new long, behind them the old one's: the highest byte is the first. */
    static long merged(long old, long fresh, int bytes) {
        long merged = 0;
        for (int b = 0; b < 8; b++) {
            long from = b < bytes ? fresh : old;
            merged = merged << 8 | from >>> (56 - 8 * b) & 0xff;
        }
        return merged;
    }

    /** What of LONG i is read if so many bytes of its block came. */
    static long mergedIn(int i, long old, long fresh, int blockBytes) {
        return merged(old, fresh, Math.max(0, Math.min(8, blockBytes - 8 * i)));
    }
}
