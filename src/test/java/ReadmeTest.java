/** The example of README.md, call by call, with the answers that stand beside them there. */
public final class ReadmeTest {
    public static void main(String[] args) {
        Expect expect = new Expect("ReadmeTest");
        ParityArray array = new ParityArray();
        expect.answers("the first set", 0, () -> array.set(9, 3, 42L));
        expect.works("die", () -> array.die(1));
        expect.answers("get without disk 1", 42, () -> array.get(9, 3));
        expect.works("power", () -> array.power(1, 28, false));
        expect.refuses("the cut set", Expect.POWER, () -> array.set(9, 3, -1L));
        expect.answers("told(0)", 0, () -> array.told(0));
        expect.works("recover", array::recover);
        expect.answers("get behind it", 0xffffffff0000002aL, () -> array.get(9, 3));
        expect.answers("replace", 1, array::replace);
        for (int left = 149; left >= 0; left--) {
            expect.answers("rebuild", left, array::rebuild);
        }
        expect.answers("told(1)", -1, () -> array.told(1));
        expect.answers("check", 0, array::check);
        expect.end();
    }
}
