import java.util.Arrays;

/**
 * Blocks on five disks with parity whose turn goes round. Before a block is written, the disk of its
 * parity gets a record of the partial parity (the stripe's other blocks put together by ^), so that
 * the parity can be set right from it after a power failure, even while another disk is missing.
 */
public final class ParityArray {
    private static final int NONE = -1;
    private static final int DISKS = 5;
    private static final int STRIPES = 150;
    private static final int STRIPE_BLOCKS = 4;
    private static final int BLOCKS = 600;
    private static final int LONGS = 16;
    private static final int LONG_BYTES = 8;
    private static final int BYTE_BITS = 8;
    private static final int BLOCK_BYTES = 128;
    private static final int RECORD_BYTES = 136;
    private static final int LAST_CUT_WRITE = 10;
    private static final int LAST_CUT_BYTE = 200;

    private final Disk[] disks = new Disk[DISKS];
    private final Supply supply = new Supply();

    // Rows that set and recover use again and again, so that no call makes any.
    private final long[] block = new long[LONGS];
    private final long[] partial = new long[LONGS];
    private final long[] parity = new long[LONGS];

    public ParityArray() {
        for (int d = 0; d < DISKS; d++) {
            disks[d] = new Disk();
        }
    }

    public long set(int n, int i, long w)
            throws IllegalStateException, IndexOutOfBoundsException, ArithmeticException {
        if (!supply.on) {
            throw new IllegalStateException("power is off");
        }
        if (!isLong(n, i)) {
            throw new IndexOutOfBoundsException("no such block or long");
        }
        long was = readLong(n, i);
        prepareRows(n, i, w);
        supply.begin(false);
        writeRows(n);
        supply.end();
        if (!supply.on) {
            throw new ArithmeticException("power failed");
        }
        return was;
    }

    public long get(int n, int i) throws IllegalStateException, IndexOutOfBoundsException {
        if (!supply.on) {
            throw new IllegalStateException("power is off");
        }
        if (!isLong(n, i)) {
            throw new IndexOutOfBoundsException("no such block or long");
        }
        return readLong(n, i);
    }

    public void die(int d) throws IndexOutOfBoundsException, IllegalStateException {
        if (d < 0 || d >= DISKS) {
            throw new IndexOutOfBoundsException("no such disk");
        }
        if (!supply.on) {
            throw new IllegalStateException("power is off");
        }
        if (unwellDisk() != NONE) {
            throw new IllegalStateException("a disk is not well");
        }
        disks[d].loseAll();
    }

    public int replace() throws IllegalStateException {
        int d = unwellDisk();
        if (d == NONE || !disks[d].dead) {
            throw new IllegalStateException("no disk is dead");
        }
        disks[d].dead = false;
        return d;
    }

    public int rebuild() throws IllegalStateException {
        if (!supply.on) {
            throw new IllegalStateException("power is off");
        }
        int d = unwellDisk();
        if (d == NONE || disks[d].dead) {
            throw new IllegalStateException("no disk is new");
        }
        rebuildStripe(d, disks[d].there);
        disks[d].there++;
        return STRIPES - disks[d].there;
    }

    public void power(int k, int b, boolean recover) throws IllegalArgumentException {
        if (k < 0 || k > LAST_CUT_WRITE) {
            throw new IllegalArgumentException("no such write");
        }
        if (b < 0 || b > LAST_CUT_BYTE) {
            throw new IllegalArgumentException("no such byte");
        }
        supply.plan(k, b, recover);
    }

    public void recover() throws ArithmeticException {
        supply.on = true;
        supply.begin(true);
        for (int d = 0; d < DISKS; d++) {
            mendParity(disks[d]);
        }
        supply.end();
        supply.forgetPlan();
        if (!supply.on) {
            throw new ArithmeticException("power failed");
        }
    }

    public int told(int what) throws IllegalArgumentException {
        int d = unwellDisk();
        switch (what) {
            case 0:
                return supply.on ? 1 : 0;
            case 1:
                return d;
            case 2:
                return d != NONE && !disks[d].dead ? 1 : 0;
            case 3:
                return d != NONE ? disks[d].there : 0;
            default:
                throw new IllegalArgumentException("nothing to tell");
        }
    }

    public int check() throws IllegalStateException {
        if (!supply.on) {
            throw new IllegalStateException("power is off");
        }
        if (unwellDisk() != NONE) {
            return 0;
        }
        int wrong = 0;
        for (int s = 0; s < STRIPES; s++) {
            if (!isParityRight(s)) {
                wrong++;
            }
        }
        return wrong;
    }

    private static boolean isLong(int n, int i) {
        return n >= 0 && n < BLOCKS && i >= 0 && i < LONGS;
    }

    private static int stripeOf(int n) {
        return n / STRIPE_BLOCKS;
    }

    private static int parityDiskOf(int s) {
        return s % DISKS;
    }

    private static int diskOf(int n) {
        int place = n % STRIPE_BLOCKS;
        return place < parityDiskOf(stripeOf(n)) ? place : place + 1;
    }

    private int unwellDisk() {
        for (int d = 0; d < DISKS; d++) {
            if (!disks[d].isWell()) {
                return d;
            }
        }
        return NONE;
    }

    private long readLong(int n, int i) {
        int s = stripeOf(n);
        int d = diskOf(n);
        return disks[d].isThere(s) ? disks[d].longAt(s, i) : othersTogether(d, s, i);
    }

    /** What disk d has, or would have, as LONG i of stripe s: all five disks put together give 0. */
    private long othersTogether(int d, int s, int i) {
        long together = 0;
        for (int e = 0; e < DISKS; e++) {
            if (e != d) {
                together ^= disks[e].longAt(s, i);
            }
        }
        return together;
    }

    /** Makes ready the three rows that a set writes; without a parity that is THERE only the block's counts. */
    private void prepareRows(int n, int i, long w) {
        int s = stripeOf(n);
        Disk parityDisk = disks[parityDiskOf(s)];
        for (int j = 0; j < LONGS; j++) {
            block[j] = readLong(n, j);
            partial[j] = parityDisk.longAt(s, j) ^ block[j];
        }
        block[i] = w;
        for (int j = 0; j < LONGS; j++) {
            parity[j] = partial[j] ^ block[j];
        }
    }

    private void writeRows(int n) {
        int s = stripeOf(n);
        Disk parityDisk = disks[parityDiskOf(s)];
        Disk blockDisk = disks[diskOf(n)];
        if (parityDisk.isThere(s)) {
            parityDisk.writeRecord(n, partial, supply.letThrough(RECORD_BYTES));
        }
        if (blockDisk.isThere(s)) {
            blockDisk.writeRow(s, block, supply.letThrough(BLOCK_BYTES));
        }
        if (parityDisk.isThere(s)) {
            parityDisk.writeRow(s, parity, supply.letThrough(BLOCK_BYTES));
        }
    }

    /**
     * Sets the parity right that the disk's record is for. The record of a set that came to its end
     * gives the parity that is there already, so it does not matter which set was the cut one. A block
     * that is not THERE is read from the parity, which then must stay as it is.
     */
    private void mendParity(Disk parityDisk) {
        int n = parityDisk.recordBlock;
        if (n == NONE) {
            return;
        }
        int s = stripeOf(n);
        Disk blockDisk = disks[diskOf(n)];
        if (!blockDisk.isThere(s)) {
            return;
        }
        for (int j = 0; j < LONGS; j++) {
            parity[j] = parityDisk.record[j] ^ blockDisk.longAt(s, j);
        }
        parityDisk.writeRow(s, parity, supply.letThrough(BLOCK_BYTES));
    }

    private void rebuildStripe(int d, int s) {
        for (int j = 0; j < LONGS; j++) {
            block[j] = othersTogether(d, s, j);
        }
        disks[d].writeRow(s, block, BLOCK_BYTES);
    }

    private boolean isParityRight(int s) {
        int d = parityDiskOf(s);
        for (int j = 0; j < LONGS; j++) {
            if (disks[d].longAt(s, j) != othersTogether(d, s, j)) {
                return false;
            }
        }
        return true;
    }

    /** One disk: a row (a block or a parity) of each stripe, and the record of the last set it has the parity of. */
    private static final class Disk {
        private final long[] rows = new long[STRIPES * LONGS];
        private final long[] record = new long[LONGS];
        private int recordBlock = NONE;
        private boolean dead = false;
        private int there = STRIPES;

        boolean isWell() {
            return there == STRIPES;
        }

        boolean isThere(int s) {
            return s < there;
        }

        long longAt(int s, int i) {
            return rows[s * LONGS + i];
        }

        void loseAll() {
            Arrays.fill(rows, 0L);
            // A record that outlived its disk would undo the sets made while the disk was away.
            recordBlock = NONE;
            dead = true;
            there = 0;
        }

        /**
         * A record that did not come whole is none, as if its head bore a checksum that never errs. The
         * older record that it spoils is not missed: that one's set came to its end or was mended.
         */
        void writeRecord(int n, long[] row, int bytes) {
            if (bytes < RECORD_BYTES) {
                recordBlock = NONE;
                return;
            }
            System.arraycopy(row, 0, record, 0, LONGS);
            recordBlock = n;
        }

        void writeRow(int s, long[] row, int bytes) {
            int at = s * LONGS;
            int whole = bytes / LONG_BYTES;
            int rest = bytes % LONG_BYTES;
            System.arraycopy(row, 0, rows, at, whole);
            if (rest > 0) {
                long old = -1L >>> (rest * BYTE_BITS);
                rows[at + whole] = (row[whole] & ~old) | (rows[at + whole] & old);
            }
        }
    }

    /** The power, and where it was said to fail. */
    private static final class Supply {
        private boolean on = true;
        private boolean planned = false;
        private boolean plannedInRecover = false;
        private int cutWrite = 0;
        private int cutBytes = 0;
        private boolean failing = false;
        private int writes = 0;

        void plan(int k, int b, boolean inRecover) {
            planned = true;
            plannedInRecover = inRecover;
            cutWrite = k;
            cutBytes = b;
        }

        void forgetPlan() {
            planned = false;
        }

        /** A set or a recover begins: in the one that was planned for, power will fail. */
        void begin(boolean inRecover) {
            failing = planned && plannedInRecover == inRecover;
            writes = 0;
        }

        /** How many bytes of the next write come to the disk. */
        int letThrough(int bytes) {
            if (!on) {
                return 0;
            }
            if (failing && writes == cutWrite) {
                on = false;
                return Math.min(cutBytes, bytes);
            }
            writes++;
            return bytes;
        }

        void end() {
            if (failing) {
                on = false;
                planned = false;
                failing = false;
            }
        }
    }
}
