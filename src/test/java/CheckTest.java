/** Promise 10: check. */
public final class CheckTest {
    public static void main(String[] args) {
        Expect expect = new Expect("CheckTest");
        expect.holds("always 0", CheckTest::afterSets);
        expect.holds("always 0", CheckTest::afterCuts);
        expect.holds("always 0", CheckTest::afterRebuild);
        expect.holds("always 0", CheckTest::whileOneIsNotWell);
        expect.holds("IllegalStateException if it is OFF", CheckTest::off);
        expect.end();
    }

    private static void afterSets(Expect expect) {
        ParityArray x = new ParityArray();
        expect.answers("a new object", 0, x::check);
        for (int n = 0; n < 600; n += 3) {
            x.set(n, n % 16, Given.valueOf(n));
            expect.answers("after set(" + n + ")", 0, x::check);
        }
    }

    private static void afterCuts(Expect expect) {
        for (int k = 0; k <= 3; k++) {
            ParityArray x = new ParityArray();
            for (int b = 0; b <= 136; b += 4) {
                int s = b % 150;
                Given.fillStripe(x, s, 3);
                Given.cutSet(x, 4 * s + 1, 3, Given.NEW, k, b);
                x.recover();
                expect.answers("write " + k + " cut after " + b, 0, x::check);
            }
        }
    }

    private static void afterRebuild(Expect expect) {
        for (int d = 0; d < 5; d++) {
            ParityArray x = new ParityArray();
            Given.fillStripe(x, 0, 3);
            Given.fillStripe(x, 149, 15);
            x.die(d);
            x.set(1, 3, Given.NEW);
            x.replace();
            x.set(598, 15, Given.NEW);
            Given.rebuild(x, 150);
            expect.answers("disk " + d + " is rebuilt", 0, x::check);
        }
    }

    /** The parity counts only with all disks well: till then there is none that is wrong. */
    private static void whileOneIsNotWell(Expect expect) {
        for (int d = 0; d < 5; d++) {
            ParityArray x = new ParityArray();
            for (int s = 0; s < 5; s++) {
                Given.fillStripe(x, s, 3);
            }
            x.die(d);
            expect.answers("disk " + d + " is dead", 0, x::check);
            x.set(9, 3, Given.NEW);
            expect.answers("disk " + d + " is dead, after a set", 0, x::check);
            x.replace();
            for (int rebuilt = 0; rebuilt <= 150; rebuilt++) {
                expect.answers("disk " + d + " is new, " + rebuilt + " rebuilt", 0, x::check);
                if (rebuilt < 150) {
                    x.rebuild();
                }
            }
        }
    }

    private static void off(Expect expect) {
        ParityArray x = Given.off();
        expect.refuses("after a set was cut", Expect.STATE, x::check);
        x.recover();
        expect.answers("after recover", 0, x::check);
        ParityArray y = Given.offByRecover();
        expect.refuses("after a recover was cut", Expect.STATE, y::check);
        y.recover();
        expect.answers("after recover at last", 0, y::check);
        ParityArray dead = Given.dead(0);
        Given.cutSet(dead, 9, 3, 1, 0, 0);
        expect.refuses("a disk is dead", Expect.STATE, dead::check);
        dead.replace();
        expect.refuses("a disk is new", Expect.STATE, dead::check);
    }
}
