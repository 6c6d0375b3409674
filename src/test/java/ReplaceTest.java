/** Promise 5: replace. */
public final class ReplaceTest {
    public static void main(String[] args) {
        Expect expect = new Expect("ReplaceTest");
        expect.holds("The DEAD DISK is NEW: its number", ReplaceTest::isNew);
        expect.holds("The DEAD DISK is NEW: its number", ReplaceTest::isNewOnceMore);
        expect.holds("The DEAD DISK is NEW: its number", ReplaceTest::whileOff);
        expect.holds("IllegalStateException if none is DEAD", ReplaceTest::allAreWell);
        expect.holds("IllegalStateException if none is DEAD", ReplaceTest::oneIsNew);
        expect.holds("IllegalStateException if none is DEAD", ReplaceTest::noneIsDeadWhileOff);
        expect.end();
    }

    private static void isNew(Expect expect) {
        for (int d = 0; d < 5; d++) {
            ParityArray x = Given.dead(d);
            expect.answers("replace()", d, x::replace);
            expectNothingRebuilt(expect, x, d);
            expect.answers("rebuild() works", 149, x::rebuild);
        }
    }

    private static void expectNothingRebuilt(Expect expect, ParityArray x, int d) {
        expect.answers("told(1)", d, () -> x.told(1));
        expect.answers("told(2)", 1, () -> x.told(2));
        expect.answers("told(3)", 0, () -> x.told(3));
    }

    /** What was rebuilt of it the first time does not count the second time. */
    private static void isNewOnceMore(Expect expect) {
        ParityArray x = Given.renewed(3, 150);
        x.die(3);
        expect.answers("replace()", 3, x::replace);
        expectNothingRebuilt(expect, x, 3);
        expect.answers("parity of stripe 3 is there", 0, () -> Given.parityThere(x, 3));
        expect.answers("parity of stripe 2 is there", 1, () -> Given.parityThere(x, 2));
    }

    /** The promise names no exception for OFF. */
    private static void whileOff(Expect expect) {
        for (int d = 0; d < 5; d++) {
            ParityArray x = Given.dead(d);
            Given.cutSet(x, 9, 3, Given.NEW, 0, 0);
            expect.answers("replace() while off", d, x::replace);
            expect.answers("told(0)", 0, () -> x.told(0));
            expectNothingRebuilt(expect, x, d);
        }
    }

    private static void allAreWell(Expect expect) {
        ParityArray x = new ParityArray();
        expect.refuses("a new object", Expect.STATE, x::replace);
        expect.answers("told(1)", -1, () -> x.told(1));
        for (int d = 0; d < 5; d++) {
            ParityArray y = Given.renewed(d, 150);
            expect.refuses("disk " + d + " is well again", Expect.STATE, y::replace);
        }
    }

    private static void oneIsNew(Expect expect) {
        for (int d = 0; d < 5; d++) {
            for (int rebuilt : new int[] {0, 1, 149}) {
                ParityArray x = Given.renewed(d, rebuilt);
                expect.refuses("disk " + d + " is new, " + rebuilt + " rebuilt", Expect.STATE, x::replace);
                expect.answers("told(3)", rebuilt, () -> x.told(3));
            }
        }
    }

    private static void noneIsDeadWhileOff(Expect expect) {
        ParityArray x = Given.off();
        expect.refuses("all are well", Expect.STATE, x::replace);
        ParityArray y = Given.renewed(0, 1);
        Given.cutSet(y, 9, 3, Given.NEW, 0, 0);
        expect.refuses("one is new", Expect.STATE, y::replace);
    }
}
