/**
 * "power may fail at any byte of any write": every write of a set is cut after every number of bytes, with all
 * disks well, each one dead, each one new before and behind the rebuild of the stripe. Behind it another disk
 * dies, so that the parity must be right.
 */
public final class EveryCutTest {
    private static final int WELL = 0;
    private static final int DEAD = 1;
    private static final int NEW_BEFORE = 2;
    private static final int NEW_BEHIND = 3;

    public static void main(String[] args) {
        Expect expect = new Expect("EveryCutTest");
        expect.holds("power may fail at any byte of any write", own -> cutAll(own, WELL, -1));
        for (int d = 0; d < 5; d++) {
            int unwell = d;
            expect.holds("power may fail at any byte of any write", own -> cutAll(own, DEAD, unwell));
            expect.holds("power may fail at any byte of any write", own -> cutAll(own, NEW_BEFORE, unwell));
            expect.holds("power may fail at any byte of any write", own -> cutAll(own, NEW_BEHIND, unwell));
        }
        expect.end();
    }

    /** Stripe, block and long go round with the bytes, so that each byte meets many of them. */
    private static void cutAll(Expect expect, int state, int unwell) {
        for (int k : new int[] {0, 1, 2, 3, 10}) {
            for (int b = 0; b <= 200; b++) {
                int s = b % 5;
                int n = 4 * s + b / 5 % 4;
                cutOne(expect, state, unwell, n, Math.min(15, b / 8), k, b);
                cutOne(expect, state, unwell, n, b % 16, k, b);
            }
        }
    }

    private static void cutOne(Expect expect, int state, int unwell, int n, int i, int k, int b) {
        int s = n / 4;
        ParityArray x = new ParityArray();
        Given.fillStripe(x, s, i);
        if (state != WELL) {
            x.die(unwell);
        }
        if (state == NEW_BEFORE || state == NEW_BEHIND) {
            x.replace();
            Given.rebuild(x, state == NEW_BEFORE ? s : s + 1);
        }
        // The record on the parity's disk is of another block then, so that one cut short must not be taken for whole.
        int other = 4 * s + (n + 1) % 4;
        x.set(other, i, Given.valueOf(other));
        Given.cutSet(x, n, i, Given.NEW, k, b);
        x.recover();
        int came = bytesThatCame(state, unwell, n, k, b);
        long due = Given.mergedIn(i, Given.valueOf(n), Given.NEW, came);
        String what = "state " + state + " of disk " + unwell + ", write " + k + " of block " + n + " cut after " + b;
        expectStripe(expect, what, x, n, i, due);
        makeWell(x, state);
        expect.answers(what + ": check()", 0, x::check);
        x.die((b + k) % 5);
        expectStripe(expect, what + ", then another disk dead", x, n, i, due);
    }

    private static int bytesThatCame(int state, int unwell, int n, int k, int b) {
        boolean away = state == DEAD || state == NEW_BEFORE;
        boolean parityThere = !(away && unwell == n / 4 % 5);
        // The write that brings the new block, to its disk or to the parity: the record is before it, if there is one.
        int deciding = parityThere ? 1 : 0;
        if (k != deciding) {
            return k < deciding ? 0 : 128;
        }
        return Math.min(128, b);
    }

    private static void makeWell(ParityArray x, int state) {
        if (state == DEAD) {
            x.replace();
        }
        if (state != WELL) {
            Given.rebuild(x, 150 - x.told(3));
        }
    }

    private static void expectStripe(Expect expect, String what, ParityArray x, int n, int i, long due) {
        int first = n / 4 * 4;
        for (int m = first; m < first + 4; m++) {
            int block = m;
            expect.answers(what + ": get(" + m + ", " + i + ")", m == n ? due : Given.valueOf(m),
                () -> x.get(block, i));
        }
    }
}
