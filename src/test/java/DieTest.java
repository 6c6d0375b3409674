/** Promise 4: die. */
public final class DieTest {
    public static void main(String[] args) {
        Expect expect = new Expect("DieTest");
        expect.holds("DISK d dies", DieTest::dies);
        expect.holds("IndexOutOfBoundsException if there is no DISK d", DieTest::noDisk);
        expect.holds("IllegalStateException if it is OFF", DieTest::off);
        expect.holds("or one is not WELL", DieTest::oneIsDead);
        expect.holds("or one is not WELL", DieTest::oneIsNew);
        expect.holds("or one is not WELL", DieTest::allAreWellAgain);
        expect.end();
    }

    private static void dies(Expect expect) {
        for (int d = 0; d < 5; d++) {
            int disk = d;
            ParityArray x = new ParityArray();
            expect.works("die(" + d + ")", () -> x.die(disk));
            expect.answers("told(0)", 1, () -> x.told(0));
            expect.answers("told(1)", d, () -> x.told(1));
            expect.answers("told(2)", 0, () -> x.told(2));
            expect.answers("told(3)", 0, () -> x.told(3));
            for (int s = 145; s < 150; s++) {
                int stripe = s;
                expect.answers("parity is there of stripe " + s + " without disk " + d, s % 5 == d ? 0 : 1,
                    () -> Given.parityThere(x, stripe));
            }
        }
    }

    private static void noDisk(Expect expect) {
        ParityArray x = new ParityArray();
        for (int d : new int[] {-1, 5, -5, 6, Integer.MIN_VALUE, Integer.MAX_VALUE}) {
            expect.refuses("die(" + d + ")", Expect.INDEX, () -> x.die(d));
            expect.answers("told(1)", -1, () -> x.told(1));
        }
    }

    private static void off(Expect expect) {
        ParityArray x = Given.off();
        ParityArray y = Given.offByRecover();
        for (int d = 0; d < 5; d++) {
            int disk = d;
            expect.refuses("die(" + d + ") after a set was cut", Expect.STATE, () -> x.die(disk));
            expect.refuses("die(" + d + ") after a recover was cut", Expect.STATE, () -> y.die(disk));
        }
        expect.answers("none died", -1, () -> x.told(1));
        x.recover();
        expect.works("die(4) after recover", () -> x.die(4));
    }

    private static void oneIsDead(Expect expect) {
        for (int dead = 0; dead < 5; dead++) {
            ParityArray x = Given.dead(dead);
            refusesToDie(expect, x, dead, "disk " + dead + " is dead");
        }
    }

    private static void oneIsNew(Expect expect) {
        for (int fresh = 0; fresh < 5; fresh++) {
            for (int rebuilt : new int[] {0, 1, 149}) {
                ParityArray x = Given.renewed(fresh, rebuilt);
                refusesToDie(expect, x, fresh, "disk " + fresh + " is new, " + rebuilt + " rebuilt");
                expect.answers("told(3)", rebuilt, () -> x.told(3));
            }
        }
    }

    private static void refusesToDie(Expect expect, ParityArray x, int unwell, String state) {
        for (int d = 0; d < 5; d++) {
            int disk = d;
            expect.refuses("die(" + d + "), " + state, Expect.STATE, () -> x.die(disk));
        }
        expect.answers("told(1)", unwell, () -> x.told(1));
    }

    private static void allAreWellAgain(Expect expect) {
        for (int d = 0; d < 5; d++) {
            int disk = d;
            ParityArray same = Given.renewed(d, 150);
            expect.works("the same disk", () -> same.die(disk));
            ParityArray next = Given.renewed(d, 150);
            expect.works("the next disk", () -> next.die((disk + 1) % 5));
            expect.answers("told(1)", (disk + 1) % 5, () -> next.told(1));
        }
    }
}
