/** Terms, first part: BLOCKS and LONGS, STRIPES and DISKS. */
public final class TermsTest {
    public static void main(String[] args) {
        Expect expect = new Expect("TermsTest");
        expect.holds("BLOCKS 0 to 599 of sixteen LONGS each", TermsTest::everyLongOfABlock);
        expect.holds("BLOCKS 0 to 599 of sixteen LONGS each", TermsTest::everyBlock);
        expect.holds("(the highest byte is the first)", TermsTest::highestByteFirst);
        expect.holds("at first 0", TermsTest::atFirst0);
        expect.holds("BLOCKS 4 s to 4 s + 3 are those of STRIPE s (0 to 149)", TermsTest::blocksOfAStripe);
        expect.holds("whose PARITY is on DISK s mod 5", TermsTest::parityGoesRound);
        expect.holds("of one that is NEW the STRIPES that are rebuilt are THERE", TermsTest::thereOfNew);
        expect.holds("of a DEAD one none", TermsTest::thereOfDead);
        expect.holds("of WELL ones all", TermsTest::thereOfWell);
        expect.holds("of WELL ones all", TermsTest::thereOfWellAgain);
        expect.end();
    }

    private static void everyLongOfABlock(Expect expect) {
        for (int first = 0; first < 600; first += 15) {
            ParityArray x = new ParityArray();
            for (int at = 0; at < 240; at++) {
                x.set(first + at / 16, at % 16, 1 + at);
            }
            for (int at = 0; at < 240; at++) {
                int n = first + at / 16;
                int i = at % 16;
                expect.answers("get(" + n + ", " + i + ")", 1 + at, () -> x.get(n, i));
            }
        }
    }

    private static void everyBlock(Expect expect) {
        for (int i = 0; i < 16; i++) {
            for (int first = 0; first < 3; first++) {
                int place = i;
                ParityArray x = new ParityArray();
                for (int n = first; n < 600; n += 3) {
                    x.set(n, i, Given.valueOf(n));
                }
                for (int n = first; n < 600; n += 3) {
                    int block = n;
                    expect.answers("get(" + n + ", " + i + ")", Given.valueOf(n), () -> x.get(block, place));
                }
            }
        }
    }

    private static void highestByteFirst(Expect expect) {
        long[] due = {
            0x1112131415161718L, 0xa112131415161718L, 0xa1a2131415161718L, 0xa1a2a31415161718L, 0xa1a2a3a415161718L,
            0xa1a2a3a4a5161718L, 0xa1a2a3a4a5a61718L, 0xa1a2a3a4a5a6a718L, 0xa1a2a3a4a5a6a7a8L,
        };
        for (int i : new int[] {0, 3, 15}) {
            ParityArray x = new ParityArray();
            for (int bytes = 0; bytes <= 8; bytes++) {
                x.set(9, i, Given.OLD);
                Given.cutSet(x, 9, i, Given.NEW, 1, 8 * i + bytes);
                x.recover();
                expect.answers(bytes + " bytes of long " + i, due[bytes], () -> x.get(9, i));
            }
        }
    }

    private static void atFirst0(Expect expect) {
        for (int d = 0; d < 5; d++) {
            ParityArray x = Given.dead(d);
            for (int n : new int[] {0, 1, 2, 3, 596, 597, 598, 599}) {
                for (int i : new int[] {0, 15}) {
                    expect.answers("get(" + n + ", " + i + ") without disk " + d, 0, () -> x.get(n, i));
                    expect.answers("set(" + n + ", " + i + ") without disk " + d, 0, () -> x.set(n, i, 1));
                }
            }
        }
    }

    /** With the parity's disk dead, the first write of a set is the block: of the stripe's blocks and no other. */
    private static void blocksOfAStripe(Expect expect) {
        for (int s : new int[] {0, 1, 4, 5, 74, 148, 149}) {
            ParityArray x = Given.dead(s % 5);
            for (int n = Math.max(0, 4 * s - 2); n < Math.min(600, 4 * s + 6); n++) {
                int block = n;
                boolean ofStripe = n >= 4 * s && n <= 4 * s + 3;
                x.set(n, 3, Given.OLD);
                Given.cutSet(x, n, 3, Given.NEW, 0, 200);
                x.recover();
                expect.answers("block " + n + " near stripe " + s, ofStripe ? Given.NEW : Given.OLD,
                    () -> x.get(block, 3));
            }
        }
    }

    private static void parityGoesRound(Expect expect) {
        for (int d = 0; d < 5; d++) {
            for (int first = 0; first < 150; first += 50) {
                expectParitiesWithout(expect, Given.dead(d), d, first);
            }
        }
    }

    private static void expectParitiesWithout(Expect expect, ParityArray x, int d, int first) {
        for (int s = first; s < first + 50; s++) {
            int stripe = s;
            expect.answers("parity is there of stripe " + s + " without disk " + d, s % 5 == d ? 0 : 1,
                () -> Given.parityThere(x, stripe));
        }
    }

    private static void thereOfNew(Expect expect) {
        for (int d = 0; d < 5; d++) {
            for (int rebuilt : new int[] {0, 1, 5, d, d + 1, 145 + d, 149}) {
                ParityArray x = Given.renewed(d, rebuilt);
                for (int s = d; s < 150; s += 5) {
                    int stripe = s;
                    expect.answers("stripe " + s + " of disk " + d + ", " + rebuilt + " rebuilt", s < rebuilt ? 1 : 0,
                        () -> Given.parityThere(x, stripe));
                }
            }
        }
    }

    private static void thereOfDead(Expect expect) {
        for (int d = 0; d < 5; d++) {
            ParityArray first = Given.dead(d);
            ParityArray again = Given.renewed(d, 150);
            again.die(d);
            for (int s = d; s < 150; s += 5) {
                int stripe = s;
                expect.answers("stripe " + s + " of disk " + d, 0, () -> Given.parityThere(first, stripe));
                expect.answers("stripe " + s + " of disk " + d + ", dead once more", 0,
                    () -> Given.parityThere(again, stripe));
            }
        }
    }

    private static void thereOfWell(Expect expect) {
        for (int first = 0; first < 150; first += 50) {
            ParityArray x = new ParityArray();
            for (int s = first; s < first + 50; s++) {
                int stripe = s;
                expect.answers("stripe " + s, 1, () -> Given.parityThere(x, stripe));
            }
        }
    }

    private static void thereOfWellAgain(Expect expect) {
        for (int d = 0; d < 5; d++) {
            ParityArray x = Given.renewed(d, 150);
            for (int s = d; s < 150; s += 5) {
                int stripe = s;
                expect.answers("stripe " + s + " of disk " + d, 1, () -> Given.parityThere(x, stripe));
            }
        }
    }
}
