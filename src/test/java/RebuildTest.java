/** Promise 6: rebuild. */
public final class RebuildTest {
    public static void main(String[] args) {
        Expect expect = new Expect("RebuildTest");
        expect.holds("The next STRIPE of the NEW DISK is rebuilt", RebuildTest::nextStripe);
        expect.holds("The next STRIPE of the NEW DISK is rebuilt", RebuildTest::rightlyRebuilt);
        expect.holds("behind the last one it is WELL", RebuildTest::behindTheLast);
        expect.holds("how many are left", RebuildTest::howManyAreLeft);
        expect.holds("how many are left", RebuildTest::fromTheFirstOnceMore);
        expect.holds("IllegalStateException if it is OFF", RebuildTest::off);
        expect.holds("or none is NEW", RebuildTest::noneIsNew);
        expect.end();
    }

    /** A disk that has the parity of stripe s has it just behind the rebuild of that one, not of the one before. */
    private static void nextStripe(Expect expect) {
        for (int s : new int[] {0, 1, 4, 5, 9, 74, 148, 149}) {
            int stripe = s;
            ParityArray x = Given.renewed(s % 5, s);
            expect.answers("parity is there, " + s + " rebuilt", 0, () -> Given.parityThere(x, stripe));
            expect.answers("rebuild()", 149 - s, x::rebuild);
            expect.answers("parity is there, " + (s + 1) + " rebuilt", 1, () -> Given.parityThere(x, stripe));
            int following = s + 5;
            if (following < 150) {
                expect.answers("parity of the next one of its turn is there", 0,
                    () -> Given.parityThere(x, following));
            }
        }
    }

    /** Another disk dies behind it, so that what was rebuilt must serve. */
    private static void rightlyRebuilt(Expect expect) {
        for (int d = 0; d < 5; d++) {
            for (int next = 0; next < 5; next++) {
                ParityArray x = new ParityArray();
                for (int n = 0; n < 20; n++) {
                    x.set(n, n % 16, Given.valueOf(n));
                    x.set(580 + n, n % 16, Given.valueOf(n));
                }
                x.die(d);
                x.set(0, 15, Given.NEW);
                x.replace();
                x.set(19, 15, Given.NEW);
                Given.rebuild(x, 3);
                x.set(1, 15, Given.NEW);
                x.set(18, 15, Given.NEW);
                Given.rebuild(x, 147);
                expect.answers("check()", 0, x::check);
                x.die(next);
                expectBlocks(expect, x, "disk " + d + " rebuilt, then " + next + " dead");
            }
        }
    }

    private static void expectBlocks(Expect expect, ParityArray x, String state) {
        for (int n = 0; n < 20; n++) {
            int block = n;
            expect.answers("get, " + state, Given.valueOf(n), () -> x.get(block, block % 16));
            expect.answers("get near the end, " + state, Given.valueOf(n), () -> x.get(580 + block, block % 16));
        }
        for (int n : new int[] {0, 1, 18, 19}) {
            expect.answers("set while it was not well, " + state, Given.NEW, () -> x.get(n, 15));
        }
    }

    private static void behindTheLast(Expect expect) {
        for (int d = 0; d < 5; d++) {
            ParityArray x = Given.renewed(d, 149);
            expect.answers("not well before the last", d, () -> x.told(1));
            expect.answers("new before the last", 1, () -> x.told(2));
            expect.refuses("no disk may die before the last", Expect.STATE, () -> x.die(0));
            expect.answers("the last", 0, x::rebuild);
            expect.answers("well behind the last", -1, () -> x.told(1));
            expect.answers("not new behind the last", 0, () -> x.told(2));
            expect.works("a disk may die behind the last", () -> x.die(0));
        }
    }

    private static void howManyAreLeft(Expect expect) {
        for (int d = 0; d < 5; d++) {
            ParityArray x = Given.renewed(d, 0);
            for (int left = 149; left >= 0; left--) {
                expect.answers("rebuild() of disk " + d, left, x::rebuild);
            }
        }
    }

    private static void fromTheFirstOnceMore(Expect expect) {
        ParityArray x = Given.renewed(2, 150);
        x.die(2);
        x.replace();
        expect.answers("the same disk", 149, x::rebuild);
        Given.rebuild(x, 149);
        x.die(4);
        x.replace();
        expect.answers("another disk", 149, x::rebuild);
        expect.answers("and its second stripe", 148, x::rebuild);
    }

    private static void off(Expect expect) {
        for (int rebuilt : new int[] {0, 1, 149}) {
            ParityArray x = Given.renewed(3, rebuilt);
            Given.cutSet(x, 9, 3, Given.NEW, 0, 0);
            expect.refuses("after a set was cut", Expect.STATE, x::rebuild);
            expect.answers("told(3)", rebuilt, () -> x.told(3));
            Given.cutRecover(x, 0, 0);
            expect.refuses("after a recover was cut", Expect.STATE, x::rebuild);
            x.recover();
            expect.answers("after recover", 149 - rebuilt, x::rebuild);
        }
        ParityArray dead = Given.dead(3);
        Given.cutSet(dead, 9, 3, Given.NEW, 0, 0);
        expect.refuses("one is dead", Expect.STATE, dead::rebuild);
        dead.replace();
        expect.refuses("it was replaced while off", Expect.STATE, dead::rebuild);
    }

    private static void noneIsNew(Expect expect) {
        ParityArray x = new ParityArray();
        expect.refuses("all are well", Expect.STATE, x::rebuild);
        for (int d = 0; d < 5; d++) {
            ParityArray dead = Given.dead(d);
            expect.refuses("disk " + d + " is dead", Expect.STATE, dead::rebuild);
            expect.answers("told(3)", 0, () -> dead.told(3));
            ParityArray well = Given.renewed(d, 150);
            expect.refuses("disk " + d + " is well again", Expect.STATE, well::rebuild);
            expect.answers("told(1)", -1, () -> well.told(1));
        }
    }
}
