/**
 * What the document promises, told without any parity: the blocks as they are read, and what a cut set
 * leaves of its new block.
 */
final class Model {
    private final long[][] blocks = new long[600][16];
    private boolean on = true;
    private int unwell = -1;
    private boolean dead = false;
    private int rebuilt = 0;
    private boolean planned = false;
    private boolean planInRecover = false;
    private int planWrite = 0;
    private int planBytes = 0;

    long set(int n, int i, long w) {
        lookAt(n, i);
        long was = blocks[n][i];
        if (!planned || planInRecover) {
            blocks[n][i] = w;
            return was;
        }
        planned = false;
        on = false;
        int came = bytesThatCame(n);
        for (int b = 0; b < 8; b++) {
            if (8 * i + b < came) {
                long mask = 0xffL << (56 - 8 * b);
                blocks[n][i] = blocks[n][i] & ~mask | w & mask;
            }
        }
        throw new ArithmeticException();
    }

    /** How many of the new block's bytes count, by the list of writes that the set makes. */
    private int bytesThatCame(int n) {
        int s = n / 4;
        int parityDisk = s % 5;
        int disk = n % 4;
        if (disk >= parityDisk) {
            disk++;
        }
        boolean parityThere = isThere(parityDisk, s);
        boolean blockThere = isThere(disk, s);
        int deciding = !parityThere ? 0 : 1;
        if (!parityThere && !blockThere) {
            throw new AssertionError("two disks are away");
        }
        if (planWrite == deciding) {
            return Math.min(planBytes, 128);
        }
        return planWrite < deciding ? 0 : 128;
    }

    private boolean isThere(int d, int s) {
        return d != unwell || s < rebuilt;
    }

    long get(int n, int i) {
        lookAt(n, i);
        return blocks[n][i];
    }

    private void lookAt(int n, int i) {
        beOn();
        if (n < 0 || n > 599 || i < 0 || i > 15) {
            throw new IndexOutOfBoundsException();
        }
    }

    private void beOn() {
        if (!on) {
            throw new IllegalStateException();
        }
    }

    void die(int d) {
        if (d < 0 || d > 4) {
            throw new IndexOutOfBoundsException();
        }
        beOn();
        if (unwell >= 0) {
            throw new IllegalStateException();
        }
        unwell = d;
        dead = true;
        rebuilt = 0;
    }

    int replace() {
        if (unwell < 0 || !dead) {
            throw new IllegalStateException();
        }
        dead = false;
        return unwell;
    }

    int rebuild() {
        beOn();
        if (unwell < 0 || dead) {
            throw new IllegalStateException();
        }
        rebuilt++;
        int left = 150 - rebuilt;
        if (left == 0) {
            unwell = -1;
            rebuilt = 0;
        }
        return left;
    }

    void power(int k, int b, boolean recover) {
        if (k < 0 || k > 10 || b < 0 || b > 200) {
            throw new IllegalArgumentException();
        }
        planned = true;
        planInRecover = recover;
        planWrite = k;
        planBytes = b;
    }

    void recover() {
        on = !(planned && planInRecover);
        planned = false;
        if (!on) {
            throw new ArithmeticException();
        }
    }

    int told(int what) {
        switch (what) {
            case 0: return on ? 1 : 0;
            case 1: return unwell;
            case 2: return unwell >= 0 && !dead ? 1 : 0;
            case 3: return rebuilt;
            default: throw new IllegalArgumentException();
        }
    }

    int check() {
        beOn();
        return 0;
    }
}
