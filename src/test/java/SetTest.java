/** Promise 2: set. */
public final class SetTest {
    private static final int[] NO_BLOCKS = {-1, 600, -600, 601, Integer.MIN_VALUE, Integer.MAX_VALUE};
    private static final int[] NO_LONGS = {-1, 16, -16, 17, Integer.MIN_VALUE, Integer.MAX_VALUE};
    private static final long[] EXTREMES = {Long.MIN_VALUE, Long.MAX_VALUE, -1L, 1L, 0x80L, 0L};

    public static void main(String[] args) {
        Expect expect = new Expect("SetTest");
        expect.holds("LONG i of BLOCK n becomes w", SetTest::becomes);
        expect.holds("LONG i of BLOCK n becomes w", SetTest::noOtherBecomes);
        expect.holds("LONG i of BLOCK n becomes w", SetTest::becomesWithoutADisk);
        expect.holds("what it was", SetTest::whatItWas);
        expect.holds("IllegalStateException if it is OFF", SetTest::off);
        expect.holds("IndexOutOfBoundsException if there is no BLOCK n", SetTest::noBlock);
        expect.holds("IndexOutOfBoundsException if there is no BLOCK n or LONG i", SetTest::noLong);
        expect.holds("ArithmeticException if power failed", SetTest::powerFailed);
        expect.end();
    }

    private static void becomes(Expect expect) {
        ParityArray x = new ParityArray();
        for (int n : new int[] {0, 1, 3, 4, 19, 20, 595, 596, 599}) {
            for (int i : new int[] {0, 1, 7, 15}) {
                for (long w : EXTREMES) {
                    x.set(n, i, w);
                    expect.answers("get(" + n + ", " + i + ")", w, () -> x.get(n, i));
                }
            }
        }
        expect.answers("check()", 0, x::check);
    }

    private static void noOtherBecomes(Expect expect) {
        for (int n : new int[] {0, 9, 18, 299, 599}) {
            for (int i : new int[] {0, 8, 15}) {
                ParityArray x = new ParityArray();
                x.set(n, i, -1);
                for (int m = Math.max(0, n - 5); m <= Math.min(599, n + 5); m++) {
                    for (int j = 0; j < 16; j++) {
                        int block = m;
                        int place = j;
                        long due = m == n && j == i ? -1 : 0;
                        expect.answers("get(" + m + ", " + j + ")", due, () -> x.get(block, place));
                    }
                }
            }
        }
    }

    private static void becomesWithoutADisk(Expect expect) {
        for (int d = 0; d < 5; d++) {
            ParityArray dead = Given.dead(d);
            setsAndGets(expect, "disk " + d + " is dead", dead);
            ParityArray fresh = Given.renewed(d, 10);
            setsAndGets(expect, "disk " + d + " is new, half of them rebuilt", fresh);
        }
    }

    private static void setsAndGets(Expect expect, String state, ParityArray x) {
        for (int n = 20; n < 60; n++) {
            int block = n;
            expect.answers("first set, " + state, 0, () -> x.set(block, 15, Given.valueOf(block)));
        }
        for (int n = 20; n < 60; n++) {
            int block = n;
            expect.answers("get, " + state, Given.valueOf(block), () -> x.get(block, 15));
            expect.answers("second set, " + state, Given.valueOf(block), () -> x.set(block, 15, -1));
            expect.answers("get behind it, " + state, -1, () -> x.get(block, 15));
        }
    }

    private static void whatItWas(Expect expect) {
        ParityArray x = new ParityArray();
        for (int n : new int[] {0, 599}) {
            for (int i : new int[] {0, 15}) {
                long was = 0;
                for (long w : EXTREMES) {
                    long due = was;
                    expect.answers("another one", due, () -> x.set(n, i, w));
                    expect.answers("the same again", w, () -> x.set(n, i, w));
                    was = w;
                }
            }
        }
        Given.cutSet(x, 0, 3, Given.OLD, 10, 0);
        x.recover();
        Given.cutSet(x, 0, 3, Given.NEW, 1, Given.TO_HALF);
        x.recover();
        expect.answers("behind a cut one", Given.HALF, () -> x.set(0, 3, 0));
    }

    private static void off(Expect expect) {
        ParityArray x = Given.off();
        expect.refuses("set after a set was cut", Expect.STATE, () -> x.set(0, 0, 1));
        expect.refuses("set of another block", Expect.STATE, () -> x.set(599, 15, 1));
        x.recover();
        expect.answers("set after recover, nothing was set", 0, () -> x.set(0, 0, 1));
        expect.answers("set of another block after recover, nothing was set", 0, () -> x.set(599, 15, 1));
        ParityArray y = Given.offByRecover();
        expect.refuses("set after a recover was cut", Expect.STATE, () -> y.set(0, 0, 1));
        y.recover();
        expect.answers("set after recover at last", Given.OLD, () -> y.set(0, 0, 1));
    }

    private static void noBlock(Expect expect) {
        ParityArray x = new ParityArray();
        for (int n : NO_BLOCKS) {
            for (int i : new int[] {0, 15}) {
                expect.refuses("set(" + n + ", " + i + ")", Expect.INDEX, () -> x.set(n, i, 1));
            }
        }
        expect.answers("first block", 0, () -> x.set(0, 0, 1));
        expect.answers("last block", 0, () -> x.set(599, 15, 1));
    }

    private static void noLong(Expect expect) {
        ParityArray x = new ParityArray();
        for (int i : NO_LONGS) {
            for (int n : new int[] {0, 1, 598, 599}) {
                expect.refuses("set(" + n + ", " + i + ")", Expect.INDEX, () -> x.set(n, i, 1));
            }
        }
        for (int n : NO_BLOCKS) {
            expect.refuses("set(" + n + ", 16)", Expect.INDEX, () -> x.set(n, 16, 1));
            expect.refuses("set(" + n + ", -1)", Expect.INDEX, () -> x.set(n, -1, 1));
        }
        expect.answers("first long", 0, () -> x.set(599, 0, 1));
        expect.answers("last long", 0, () -> x.set(0, 15, 1));
    }

    private static void powerFailed(Expect expect) {
        ParityArray x = new ParityArray();
        for (int k = 0; k <= 10; k++) {
            for (int b : new int[] {0, 1, 128, 200}) {
                x.power(k, b, false);
                expect.refuses("write " + k + " cut after " + b, Expect.POWER, () -> x.set(9, 3, Given.NEW));
                expect.answers("told(0)", 0, () -> x.told(0));
                x.recover();
            }
        }
        x.set(9, 3, Given.OLD);
        x.power(0, 0, false);
        expect.refuses("a set to what it is", Expect.POWER, () -> x.set(9, 3, Given.OLD));
        x.recover();
        expect.answers("a set without a power failure", Given.OLD, () -> x.set(9, 3, 0));
    }
}
