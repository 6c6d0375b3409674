/** What it is: how many calls an object bears, and that disks go and come one at a time. */
public final class WhatItIsTest {
    private static final int CALLS = 512;

    public static void main(String[] args) {
        Expect expect = new Expect("WhatItIsTest");
        String calls = "An object is used for at most 512 calls after it has been made";
        expect.holds(calls, WhatItIsTest::sets);
        expect.holds(calls, WhatItIsTest::gets);
        expect.holds(calls, WhatItIsTest::refusedCalls);
        expect.holds(calls, WhatItIsTest::cutSets);
        expect.holds(calls, WhatItIsTest::cutRecovers);
        expect.holds(calls, WhatItIsTest::rebuilds);
        expect.holds("one disk at a time may die, be replaced and rebuilt", WhatItIsTest::oneAfterTheOther);
        expect.end();
    }

    private static void sets(Expect expect) {
        ParityArray x = new ParityArray();
        for (int call = 1; call <= CALLS; call++) {
            int w = call;
            expect.answers("call " + call, call - 1, () -> x.set(599, 15, w));
        }
    }

    private static void gets(Expect expect) {
        ParityArray x = new ParityArray();
        x.set(0, 0, Given.NEW);
        for (int call = 2; call <= CALLS; call++) {
            expect.answers("call " + call, Given.NEW, () -> x.get(0, 0));
        }
    }

    private static void refusedCalls(Expect expect) {
        ParityArray x = new ParityArray();
        for (int call = 1; call < CALLS; call++) {
            expect.refuses("call " + call, Expect.INDEX, () -> x.set(600, 0, 1));
        }
        expect.answers("call 512", 0, () -> x.set(599, 0, 1));
    }

    private static void cutSets(Expect expect) {
        ParityArray x = new ParityArray();
        long due = 0;
        for (int round = 0; round < 170; round++) {
            long w = round * Given.OLD;
            x.power(1, round % 129, false);
            expect.refuses("round " + round, Expect.POWER, () -> x.set(9, 3, w));
            x.recover();
            due = Given.mergedIn(3, due, w, round % 129);
        }
        long last = due;
        expect.answers("call 511", last, () -> x.get(9, 3));
        expect.answers("call 512", 0, x::check);
    }

    private static void cutRecovers(Expect expect) {
        ParityArray x = new ParityArray();
        x.set(9, 3, Given.OLD);
        for (int round = 0; round < 254; round++) {
            x.power(round % 11, round % 201, true);
            expect.refuses("round " + round, Expect.POWER, x::recover);
        }
        expect.works("call 510", x::recover);
        expect.answers("call 511", Given.OLD, () -> x.get(9, 3));
        expect.answers("call 512", 0, x::check);
    }

    private static void rebuilds(Expect expect) {
        ParityArray x = new ParityArray();
        for (int d = 0; d < 3; d++) {
            int disk = d;
            expect.works("die", () -> x.die(disk));
            expect.answers("replace", d, x::replace);
            for (int left = 149; left >= 0; left--) {
                expect.answers("rebuild", left, x::rebuild);
            }
        }
        for (int call = 457; call < CALLS; call++) {
            int n = call;
            expect.answers("call " + call, 0, () -> x.set(n, 0, 1));
        }
        expect.answers("call 512", 0, x::check);
    }

    /** Three disks a run, that is 456 calls: every one of the five comes behind every other one. */
    private static void oneAfterTheOther(Expect expect) {
        for (int d = 0; d < 5; d++) {
            for (int step = 1; step < 5; step++) {
                ParityArray x = new ParityArray();
                Given.fillStripe(x, d, 3);
                for (int turn = 0; turn < 3; turn++) {
                    int disk = (d + turn * step) % 5;
                    x.die(disk);
                    x.set(4 * d, 3, Given.OLD + turn);
                    expect.answers("replace", disk, x::replace);
                    Given.rebuild(x, 150);
                    expect.answers("check", 0, x::check);
                }
                for (int n = 4 * d; n < 4 * d + 4; n++) {
                    int block = n;
                    expect.answers("get(" + n + ", 3)", n == 4 * d ? Given.OLD + 2 : Given.valueOf(n),
                        () -> x.get(block, 3));
                }
            }
        }
    }
}
