/** Promise 1: A new object. */
public final class NewObjectTest {
    public static void main(String[] args) {
        Expect expect = new Expect("NewObjectTest");
        expect.holds("All 0", NewObjectTest::all0);
        expect.holds("all DISKS WELL", NewObjectTest::allWell);
        expect.holds("it is on", NewObjectTest::isOn);
        expect.end();
    }

    /** Each object bears 512 calls, so 32 blocks are read of each. */
    private static void all0(Expect expect) {
        for (int first = 0; first < 600; first += 32) {
            ParityArray x = new ParityArray();
            for (int n = first; n < Math.min(600, first + 32); n++) {
                for (int i = 0; i < 16; i++) {
                    int block = n;
                    int place = i;
                    expect.answers("get(" + n + ", " + i + ")", 0, () -> x.get(block, place));
                }
            }
        }
        ParityArray one = new ParityArray();
        one.set(3, 3, 3);
        ParityArray other = new ParityArray();
        expect.answers("get(3, 3) of another object", 0, () -> other.get(3, 3));
        expect.answers("check()", 0, other::check);
    }

    private static void allWell(Expect expect) {
        ParityArray x = new ParityArray();
        expect.answers("told(1)", -1, () -> x.told(1));
        expect.answers("told(2)", 0, () -> x.told(2));
        expect.answers("told(3)", 0, () -> x.told(3));
        expect.refuses("replace()", Expect.STATE, x::replace);
        expect.refuses("rebuild()", Expect.STATE, x::rebuild);
        for (int s = 0; s < 5; s++) {
            int stripe = s;
            expect.answers("parity is there of stripe " + s, 1, () -> Given.parityThere(x, stripe));
        }
        for (int d = 0; d < 5; d++) {
            int disk = d;
            ParityArray y = new ParityArray();
            expect.works("die(" + d + ")", () -> y.die(disk));
        }
    }

    private static void isOn(Expect expect) {
        ParityArray x = new ParityArray();
        expect.answers("told(0)", 1, () -> x.told(0));
        expect.answers("get", 0, () -> x.get(599, 15));
        expect.answers("check()", 0, x::check);
        expect.answers("set, no power failure waits for it", 0, () -> x.set(599, 15, 1));
        ParityArray y = new ParityArray();
        expect.works("recover, no power failure waits for it", y::recover);
        expect.answers("told(0) after recover", 1, () -> y.told(0));
    }
}
