/** Promise 3: get. */
public final class GetTest {
    public static void main(String[] args) {
        Expect expect = new Expect("GetTest");
        expect.holds("LONG i of BLOCK n", GetTest::edges);
        expect.holds("LONG i of BLOCK n", GetTest::eachDiskDead);
        expect.holds("LONG i of BLOCK n", GetTest::eachDiskNew);
        expect.holds("Thrown as by set", GetTest::off);
        expect.holds("Thrown as by set", GetTest::noBlock);
        expect.holds("Thrown as by set", GetTest::noLong);
        expect.holds("Thrown as by set", GetTest::offBeforeNoLong);
        expect.end();
    }

    private static void edges(Expect expect) {
        ParityArray x = new ParityArray();
        for (int n : new int[] {0, 3, 4, 595, 596, 599}) {
            for (int i : new int[] {0, 15}) {
                expect.answers("before a set", 0, () -> x.get(n, i));
                x.set(n, i, 100 * n + i);
                expect.answers("after a set", 100 * n + i, () -> x.get(n, i));
            }
        }
        for (int n : new int[] {0, 3, 4, 595, 596, 599}) {
            expect.answers("first long, after all sets", 100 * n, () -> x.get(n, 0));
            expect.answers("last long, after all sets", 100 * n + 15, () -> x.get(n, 15));
            expect.answers("a long between", 0, () -> x.get(n, 7));
        }
    }

    /** Stripes 0 to 9 and the last ten: every turn of the parity at both ends. */
    private static void eachDiskDead(Expect expect) {
        for (int d = 0; d < 5; d++) {
            for (int first : new int[] {0, 560}) {
                ParityArray x = new ParityArray();
                for (int n = first; n < first + 40; n++) {
                    x.set(n, n % 16, Given.valueOf(n));
                }
                x.die(d);
                for (int n = first; n < first + 40; n++) {
                    int block = n;
                    expect.answers("block " + n + " without disk " + d, Given.valueOf(n),
                        () -> x.get(block, block % 16));
                    expect.answers("a long that was not set", 0, () -> x.get(block, (block + 1) % 16));
                }
            }
        }
    }

    /** Read at every stage: what is rebuilt from the disk itself, what is not from the others. */
    private static void eachDiskNew(Expect expect) {
        for (int d = 0; d < 5; d++) {
            ParityArray x = new ParityArray();
            for (int n = 0; n < 40; n++) {
                x.set(n, n % 16, Given.valueOf(n));
            }
            x.die(d);
            x.replace();
            for (int rebuilt = 0; rebuilt <= 10; rebuilt++) {
                for (int n = 0; n < 40; n++) {
                    int block = n;
                    expect.answers("block " + n + " with disk " + d + " new, " + rebuilt + " rebuilt",
                        Given.valueOf(n), () -> x.get(block, block % 16));
                }
                x.rebuild();
            }
        }
    }

    private static void off(Expect expect) {
        ParityArray x = Given.off();
        expect.refuses("get after a set was cut", Expect.STATE, () -> x.get(0, 0));
        expect.refuses("get of another block", Expect.STATE, () -> x.get(599, 15));
        x.recover();
        expect.answers("get after recover", 0, () -> x.get(0, 0));
        ParityArray y = Given.offByRecover();
        expect.refuses("get after a recover was cut", Expect.STATE, () -> y.get(0, 0));
        y.recover();
        expect.answers("get after recover at last", Given.OLD, () -> y.get(0, 0));
    }

    private static void noBlock(Expect expect) {
        ParityArray x = new ParityArray();
        for (int n : new int[] {-1, 600, -600, 601, Integer.MIN_VALUE, Integer.MAX_VALUE}) {
            for (int i : new int[] {-1, 0, 15, 16}) {
                expect.refuses("get(" + n + ", " + i + ")", Expect.INDEX, () -> x.get(n, i));
            }
        }
        expect.answers("first block", 0, () -> x.get(0, 0));
        expect.answers("last block", 0, () -> x.get(599, 0));
    }

    private static void noLong(Expect expect) {
        ParityArray x = new ParityArray();
        for (int i : new int[] {-1, 16, -16, 17, Integer.MIN_VALUE, Integer.MAX_VALUE}) {
            for (int n : new int[] {0, 1, 598, 599}) {
                expect.refuses("get(" + n + ", " + i + ")", Expect.INDEX, () -> x.get(n, i));
            }
        }
        expect.answers("first long", 0, () -> x.get(0, 0));
        expect.answers("last long", 0, () -> x.get(0, 15));
    }

    private static void offBeforeNoLong(Expect expect) {
        ParityArray x = Given.off();
        expect.refuses("no block", Expect.STATE, () -> x.get(600, 0));
        expect.refuses("no long", Expect.STATE, () -> x.get(0, 16));
        expect.refuses("neither", Expect.STATE, () -> x.get(-1, -1));
    }
}
