/** Promise 8: recover. The sets are of stripe 2: blocks 8 to 11 on disks 0, 1, 3 and 4, the parity on disk 2. */
public final class RecoverTest {
    private static final int STRIPE = 2;
    private static final int FIRST = 8;

    public static void main(String[] args) {
        Expect expect = new Expect("RecoverTest");
        expect.holds("Power is on again (or still)", RecoverTest::onAgain);
        expect.holds("Power is on again (or still)", RecoverTest::onStill);
        expect.holds("PARITY is set right where a set was cut", RecoverTest::parityIsRight);
        expect.holds("PARITY is set right where a set was cut", RecoverTest::parityIsRightWithoutADisk);
        expect.holds("PARITY is set right where a set was cut", RecoverTest::severalCutSets);
        expect.holds("PARITY is set right where a set was cut", RecoverTest::replacedWhileOff);
        expect.holds("PARITY is set right where a set was cut", RecoverTest::oldRecordsDoNoHarm);
        expect.holds("What was said by power is forgotten", RecoverTest::forgotten);
        expect.holds("ArithmeticException if power fails in that (it is OFF then)", RecoverTest::powerFails);
        expect.holds("ArithmeticException if power fails in that (it is OFF then)", RecoverTest::cutAtEveryByte);
        expect.end();
    }

    private static void onAgain(Expect expect) {
        ParityArray x = Given.off();
        expect.answers("told(0) before", 0, () -> x.told(0));
        expect.works("recover", x::recover);
        expect.answers("told(0) behind", 1, () -> x.told(0));
        expect.answers("get", 0, () -> x.get(0, 0));
        expect.answers("set", 0, () -> x.set(0, 0, 1));
        expect.works("die", () -> x.die(0));
    }

    private static void onStill(Expect expect) {
        ParityArray x = new ParityArray();
        expect.works("recover of a new object", x::recover);
        Given.fillStripe(x, STRIPE, 3);
        expect.works("recover while on", x::recover);
        expect.answers("told(0)", 1, () -> x.told(0));
        expectStripe(expect, "on still", x, Given.valueOf(9));
        x.die(4);
        expect.works("recover with a dead disk", x::recover);
        expect.answers("told(1)", 4, () -> x.told(1));
        x.replace();
        Given.rebuild(x, 7);
        expect.works("recover with a new disk", x::recover);
        expect.answers("told(2)", 1, () -> x.told(2));
        expect.answers("told(3)", 7, () -> x.told(3));
        expectStripe(expect, "on still, with a new disk", x, Given.valueOf(9));
    }

    /** The disk that dies behind it is put together from the parity. */
    private static void parityIsRight(Expect expect) {
        for (int lost = 0; lost < 5; lost++) {
            for (int k = 0; k <= 3; k++) {
                for (int b : new int[] {0, 1, Given.TO_HALF, 127, 128, 135, 136, 200}) {
                    ParityArray x = new ParityArray();
                    Given.fillStripe(x, STRIPE, 3);
                    Given.cutSet(x, 9, 3, Given.NEW, k, b);
                    x.recover();
                    expect.answers("check()", 0, x::check);
                    x.die(lost);
                    int came = k < 1 ? 0 : k == 1 ? b : 128;
                    long due = Given.mergedIn(3, Given.valueOf(9), Given.NEW, came);
                    expectStripe(expect, "write " + k + " cut after " + b + ", then disk " + lost + " lost", x, due);
                }
            }
        }
    }

    private static void parityIsRightWithoutADisk(Expect expect) {
        for (int dead = 0; dead < 5; dead++) {
            for (int lost = 0; lost < 5; lost++) {
                ParityArray x = new ParityArray();
                Given.fillStripe(x, STRIPE, 3);
                x.die(dead);
                cutInHalf(x, dead);
                x.recover();
                String state = "disk " + dead + " dead";
                expectStripe(expect, state, x, halfOfBlock9());
                x.replace();
                Given.rebuild(x, 150);
                expect.answers("check()", 0, x::check);
                x.die(lost);
                expectStripe(expect, state + ", rebuilt, then disk " + lost + " lost", x, halfOfBlock9());
            }
        }
    }

    /** Each stripe has its own parity and each disk its own record; a second cut does not spoil the first one. */
    private static void severalCutSets(Expect expect) {
        for (int lost = 0; lost < 5; lost++) {
            ParityArray x = new ParityArray();
            for (int s = 0; s < 10; s++) {
                Given.fillStripe(x, s, 3);
            }
            for (int n = 0; n < 40; n++) {
                Given.cutSet(x, n, 3, Given.NEW, 1, Given.TO_HALF);
                x.recover();
            }
            expect.answers("check()", 0, x::check);
            x.die(lost);
            for (int n = 0; n < 40; n++) {
                int block = n;
                expect.answers("get(" + n + ", 3) without disk " + lost,
                    Given.merged(Given.valueOf(n), Given.NEW, 4), () -> x.get(block, 3));
            }
        }
    }

    private static void replacedWhileOff(Expect expect) {
        for (int dead = 0; dead < 5; dead++) {
            ParityArray x = new ParityArray();
            Given.fillStripe(x, STRIPE, 3);
            x.die(dead);
            cutInHalf(x, dead);
            x.replace();
            x.recover();
            expectStripe(expect, "disk " + dead + " replaced", x, halfOfBlock9());
            Given.rebuild(x, 150);
            expectStripe(expect, "disk " + dead + " rebuilt", x, halfOfBlock9());
            expect.answers("check()", 0, x::check);
            x.recover();
            expect.answers("check() behind one more recover", 0, x::check);
        }
    }

    /** A record made before its disk died must not be used for the parity that was rebuilt. */
    private static void oldRecordsDoNoHarm(Expect expect) {
        for (int dead = 0; dead < 5; dead++) {
            ParityArray x = new ParityArray();
            Given.fillStripe(x, STRIPE, 3);
            x.set(9, 3, Given.OLD);
            x.die(dead);
            x.set(10, 3, Given.NEW);
            x.replace();
            x.set(11, 3, Given.NEW);
            Given.rebuild(x, 150);
            Given.cutSet(x, 599, 0, 1, 0, 0);
            x.recover();
            expect.answers("check(), disk " + dead + " was dead", 0, x::check);
            x.die(3);
            expect.answers("set while it was dead", Given.NEW, () -> x.get(10, 3));
            expect.answers("set while it was new", Given.NEW, () -> x.get(11, 3));
            expect.answers("set before", Given.OLD, () -> x.get(9, 3));
        }
    }

    private static void forgotten(Expect expect) {
        ParityArray x = new ParityArray();
        x.power(0, 0, false);
        x.recover();
        expect.answers("said for a set, recover while on", 0, () -> x.set(9, 3, 1));
        Given.cutSet(x, 9, 3, 2, 0, 0);
        x.power(0, 0, false);
        x.recover();
        expect.answers("said for a set while off", 1, () -> x.set(9, 3, 3));
        Given.cutRecover(x, 0, 0);
        expect.works("said for a recover that was cut", x::recover);
        expect.answers("and no set is cut behind it", 3, () -> x.set(9, 3, 4));
        expect.works("and no recover", x::recover);
    }

    private static void powerFails(Expect expect) {
        for (int k = 0; k <= 10; k++) {
            ParityArray x = new ParityArray();
            x.set(9, 3, Given.OLD);
            x.power(k, 0, true);
            expect.refuses("recover while on", Expect.POWER, x::recover);
            expectOff(expect, x);
            x.power(k, 200, true);
            expect.refuses("recover while off", Expect.POWER, x::recover);
            expectOff(expect, x);
            expect.works("recover at last", x::recover);
            expect.answers("nothing was lost", Given.OLD, () -> x.get(9, 3));
        }
    }

    private static void expectOff(Expect expect, ParityArray x) {
        expect.answers("told(0)", 0, () -> x.told(0));
        expect.refuses("get", Expect.STATE, () -> x.get(9, 3));
        expect.refuses("set", Expect.STATE, () -> x.set(9, 3, 1));
        expect.refuses("check", Expect.STATE, x::check);
    }

    /** However often recover is cut, the block keeps what came of it and a dead disk's block is not harmed. */
    private static void cutAtEveryByte(Expect expect) {
        for (int dead = -1; dead < 5; dead++) {
            for (int b = 0; b <= 200; b++) {
                ParityArray x = new ParityArray();
                Given.fillStripe(x, STRIPE, 3);
                if (dead >= 0) {
                    x.die(dead);
                }
                cutInHalf(x, dead);
                for (int k = 0; k < 3; k++) {
                    Given.cutRecover(x, k, b);
                    expect.answers("told(0)", 0, () -> x.told(0));
                }
                x.recover();
                expectStripe(expect, "disk " + dead + " dead, recover cut after " + b, x, halfOfBlock9());
                expect.answers("check()", 0, x::check);
            }
        }
    }

    /** Without its parity there is no record before the block. */
    private static void cutInHalf(ParityArray x, int dead) {
        Given.cutSet(x, 9, 3, Given.NEW, dead == 2 ? 0 : 1, Given.TO_HALF);
    }

    private static long halfOfBlock9() {
        return Given.merged(Given.valueOf(9), Given.NEW, 4);
    }

    private static void expectStripe(Expect expect, String state, ParityArray x, long block9) {
        for (int n = FIRST; n < FIRST + 4; n++) {
            int block = n;
            long due = n == 9 ? block9 : Given.valueOf(n);
            expect.answers("get(" + n + ", 3), " + state, due, () -> x.get(block, 3));
            expect.answers("get(" + n + ", 4), " + state, 0, () -> x.get(block, 4));
        }
    }
}
