/**
 * Terms, second part: the WRITES of a set and how power cuts them. Block 9 is of stripe 2: it is on disk 1,
 * the parity on disk 2, its stripe's other blocks 8, 10 and 11 on disks 0, 3 and 4.
 */
public final class WritesTest {
    private static final int WITHOUT_BLOCK = 1;
    private static final int WITHOUT_PARITY = 2;
    /** All but the last byte of a block: what is lost of its LONG 15. */
    private static final long ALL_BUT_ONE = 0xa1a2a3a4a5a6a718L;

    public static void main(String[] args) {
        Expect expect = new Expect("WritesTest");
        expect.holds("if the PARITY is THERE a record of 136 bytes", WritesTest::record);
        expect.holds("if the PARITY is THERE a record of 136 bytes", WritesTest::noRecord);
        expect.holds("the BLOCK (128 bytes), if it is THERE", WritesTest::block);
        expect.holds("the BLOCK (128 bytes), if it is THERE", WritesTest::noBlock);
        expect.holds("the PARITY (128 bytes), if it is THERE", WritesTest::parity);
        expect.holds("the PARITY (128 bytes), if it is THERE", WritesTest::noParity);
        expect.holds("a WRITE is cut after some bytes, and nothing more is written", WritesTest::nothingMore);
        expect.holds("so much of the new one as came to its DISK", WritesTest::cameToItsDisk);
        expect.holds("(or, if it is not THERE, to the PARITY)", WritesTest::cameToTheParity);
        expect.holds("behind that the old one", WritesTest::oldBehindThat);
        expect.holds("all other BLOCKS are as they were", WritesTest::othersOfTheStripe);
        expect.holds("all other BLOCKS are as they were", WritesTest::othersOfOtherStripes);
        expect.holds("It is OFF then, till recover", WritesTest::offTillRecover);
        expect.end();
    }

    private static void record(Expect expect) {
        for (int b : new int[] {0, 1, 8, 127, 128, 135, 136, 137, 200}) {
            expectCut(expect, "all are well", new ParityArray(), 0, b, Given.OLD);
            expectCut(expect, "the block is not there", Given.dead(WITHOUT_BLOCK), 0, b, Given.OLD);
            expectCut(expect, "another block is not there", Given.dead(3), 0, b, Given.OLD);
            expectCut(expect, "the parity is rebuilt", Given.renewed(WITHOUT_PARITY, 3), 0, b, Given.OLD);
        }
    }

    private static void noRecord(Expect expect) {
        expectCut(expect, "dead", Given.dead(WITHOUT_PARITY), 0, 128, Given.NEW);
        expectCut(expect, "new", Given.renewed(WITHOUT_PARITY, 0), 0, 128, Given.NEW);
        expectCut(expect, "new, the next one is this stripe", Given.renewed(WITHOUT_PARITY, 2), 0, 128, Given.NEW);
    }

    private static void block(Expect expect) {
        expectCut(expect, "all are well", new ParityArray(), 1, 0, Given.OLD);
        expectCut(expect, "all are well", new ParityArray(), 1, 127, ALL_BUT_ONE);
        expectCut(expect, "all are well", new ParityArray(), 1, 128, Given.NEW);
        expectCut(expect, "the block is rebuilt", Given.renewed(WITHOUT_BLOCK, 3), 1, 127, ALL_BUT_ONE);
        expectCut(expect, "the parity is not there", Given.dead(WITHOUT_PARITY), 0, 0, Given.OLD);
        expectCut(expect, "the parity is not there", Given.dead(WITHOUT_PARITY), 0, 127, ALL_BUT_ONE);
    }

    /** Then write 1 is the parity, and there is no write 2. */
    private static void noBlock(Expect expect) {
        expectCut(expect, "dead", Given.dead(WITHOUT_BLOCK), 1, 127, ALL_BUT_ONE);
        expectCut(expect, "dead", Given.dead(WITHOUT_BLOCK), 2, 0, Given.NEW);
        expectCut(expect, "new", Given.renewed(WITHOUT_BLOCK, 2), 1, 127, ALL_BUT_ONE);
        expectCut(expect, "new", Given.renewed(WITHOUT_BLOCK, 2), 2, 0, Given.NEW);
    }

    private static void parity(Expect expect) {
        for (int b : new int[] {0, 1, 127, 128}) {
            expectCut(expect, "all are well", new ParityArray(), 2, b, Given.NEW);
            expectCut(expect, "another block is not there", Given.dead(0), 2, b, Given.NEW);
        }
        expectCut(expect, "the block is not there", Given.dead(WITHOUT_BLOCK), 1, 0, Given.OLD);
        expectCut(expect, "the block is not there", Given.dead(WITHOUT_BLOCK), 1, 128, Given.NEW);
    }

    /** Then the block is the only write. */
    private static void noParity(Expect expect) {
        for (int k = 1; k <= 10; k++) {
            expectCut(expect, "dead", Given.dead(WITHOUT_PARITY), k, 0, Given.NEW);
            expectCut(expect, "new", Given.renewed(WITHOUT_PARITY, 2), k, 0, Given.NEW);
        }
    }

    private static void nothingMore(Expect expect) {
        expectCut(expect, "the whole record, no block", new ParityArray(), 0, 200, Given.OLD);
        expectCut(expect, "the whole record, no parity", Given.dead(WITHOUT_BLOCK), 0, 200, Given.OLD);
        for (int dead = 3; dead < 5; dead++) {
            expectCut(expect, "the whole record, no block, disk " + dead + " is dead", Given.dead(dead), 0, 200,
                Given.OLD);
            expectCut(expect, "the whole block, no parity, disk " + dead + " is dead", Given.dead(dead), 1, 200,
                Given.NEW);
        }
    }

    /** Cuts write k of a set of LONG 15 of block 9 after b bytes; due is what is read of it then. */
    private static void expectCut(Expect expect, String state, ParityArray x, int k, int b, long due) {
        String what = state + ", write " + k + " cut after " + b + ": ";
        Given.fillStripe(x, 2, 15);
        x.set(9, 15, Given.OLD);
        // The record on the parity's disk is of another block then, so that one cut short must not be taken for whole.
        x.set(11, 15, Given.valueOf(11));
        Given.cutSet(x, 9, 15, Given.NEW, k, b);
        x.recover();
        expect.answers(what + "get", due, () -> x.get(9, 15));
        expectOthers(expect, what, x, 15);
        expect.answers(what + "check()", 0, x::check);
    }

    private static void expectOthers(Expect expect, String what, ParityArray x, int i) {
        for (int n : new int[] {8, 10, 11}) {
            expect.answers(what + "block " + n, Given.valueOf(n), () -> x.get(n, i));
        }
    }

    private static void cameToItsDisk(Expect expect) {
        expectEveryByte(expect, "all are well", new int[] {}, 1);
        for (int dead : new int[] {0, 3, 4}) {
            expectEveryByte(expect, "disk " + dead + " is dead", new int[] {dead}, 1);
        }
        expectEveryByte(expect, "the parity is not there", new int[] {WITHOUT_PARITY}, 0);
    }

    private static void cameToTheParity(Expect expect) {
        expectEveryByte(expect, "the block is not there", new int[] {WITHOUT_BLOCK}, 1);
    }

    /** Cuts write k after every number of bytes, in a set of each LONG. */
    private static void expectEveryByte(Expect expect, String state, int[] dying, int k) {
        for (int i = 0; i < 16; i++) {
            for (int first = 0; first <= 128; first += 43) {
                ParityArray x = new ParityArray();
                Given.fillStripe(x, 2, i);
                for (int d : dying) {
                    x.die(d);
                }
                for (int b = first; b < first + 43; b++) {
                    int place = i;
                    x.set(9, i, Given.OLD);
                    Given.cutSet(x, 9, i, Given.NEW, k, b);
                    x.recover();
                    expect.answers("long " + i + " after " + b + " bytes, " + state,
                        Given.mergedIn(i, Given.OLD, Given.NEW, b), () -> x.get(9, place));
                }
                expectOthers(expect, state + ": ", x, i);
            }
        }
    }

    /** A set makes anew one long; those behind the cut, and those before it, are what they were. */
    private static void oldBehindThat(Expect expect) {
        for (int dead = -1; dead < 5; dead++) {
            int k = dead == WITHOUT_PARITY ? 0 : 1;
            ParityArray x = new ParityArray();
            for (int i = 0; i < 16; i++) {
                x.set(9, i, Given.valueOf(i));
            }
            if (dead >= 0) {
                x.die(dead);
            }
            for (int b : new int[] {0, 24, Given.TO_HALF, 60, 64, 65, 127, 128}) {
                Given.cutSet(x, 9, 8, Given.NEW, k, b);
                x.recover();
                for (int i = 0; i < 16; i++) {
                    int place = i;
                    long due = i == 8 ? Given.mergedIn(8, Given.valueOf(8), Given.NEW, b) : Given.valueOf(i);
                    expect.answers("long " + i + " after " + b + " bytes, disk " + dead + " dead", due,
                        () -> x.get(9, place));
                }
                x.set(9, 8, Given.valueOf(8));
            }
        }
    }

    private static void othersOfTheStripe(Expect expect) {
        for (int dead = -1; dead < 5; dead++) {
            for (int n = 8; n < 12; n++) {
                ParityArray x = new ParityArray();
                for (int i = 0; i < 16; i++) {
                    Given.fillStripe(x, 2, i);
                }
                if (dead >= 0) {
                    x.die(dead);
                }
                cutEachWrite(x, n);
                for (int m = 8; m < 12; m++) {
                    for (int i = 0; i < 16; i++) {
                        int block = m;
                        int place = i;
                        if (m != n) {
                            expect.answers("get(" + m + ", " + i + ") behind cut sets of " + n + ", disk " + dead
                                + " dead", Given.valueOf(m), () -> x.get(block, place));
                        }
                    }
                }
            }
        }
    }

    private static void cutEachWrite(ParityArray x, int n) {
        for (int k = 0; k <= 3; k++) {
            for (int b : new int[] {0, Given.TO_HALF, 128}) {
                Given.cutSet(x, n, 3, Given.NEW + k, k, b);
                x.recover();
            }
        }
    }

    private static void othersOfOtherStripes(Expect expect) {
        for (int dead = -1; dead < 5; dead++) {
            ParityArray x = new ParityArray();
            for (int s : new int[] {0, 1, 2, 3, 4, 7, 149}) {
                Given.fillStripe(x, s, 3);
            }
            if (dead >= 0) {
                x.die(dead);
            }
            cutEachWrite(x, 9);
            for (int s : new int[] {0, 1, 3, 4, 7, 149}) {
                for (int n = 4 * s; n < 4 * s + 4; n++) {
                    int block = n;
                    expect.answers("get(" + n + ", 3), disk " + dead + " dead", Given.valueOf(n),
                        () -> x.get(block, 3));
                }
            }
        }
    }

    private static void offTillRecover(Expect expect) {
        for (int k = 0; k <= 3; k++) {
            ParityArray x = Given.dead(0);
            Given.cutSet(x, 9, 3, Given.NEW, k, 200);
            expectOff(expect, "at once", x);
            expect.answers("replace()", 0, x::replace);
            expectOff(expect, "after replace", x);
            expect.answers("which is new", 0, () -> x.told(1));
            expect.answers("it is new", 1, () -> x.told(2));
            expect.answers("none of it is rebuilt", 0, () -> x.told(3));
            expectOff(expect, "after told", x);
            x.power(0, 0, false);
            expectOff(expect, "after power", x);
            Given.cutRecover(x, k, 0);
            expectOff(expect, "after a recover that was cut", x);
            x.recover();
            expect.answers("told(0) after recover", 1, () -> x.told(0));
            expect.answers("get after recover", k == 0 ? 0 : Given.NEW, () -> x.get(9, 3));
            expect.answers("rebuild after recover", 149, x::rebuild);
        }
        ParityArray well = Given.off();
        expect.refuses("die", Expect.STATE, () -> well.die(0));
        well.recover();
        expect.works("die after recover", () -> well.die(0));
    }

    private static void expectOff(Expect expect, String when, ParityArray x) {
        expect.answers("told(0) " + when, 0, () -> x.told(0));
        expect.refuses("set " + when, Expect.STATE, () -> x.set(9, 3, 1));
        expect.refuses("get " + when, Expect.STATE, () -> x.get(9, 3));
        expect.refuses("die " + when, Expect.STATE, () -> x.die(0));
        expect.refuses("rebuild " + when, Expect.STATE, x::rebuild);
        expect.refuses("check " + when, Expect.STATE, x::check);
        expect.answers("told(0) behind these, " + when, 0, () -> x.told(0));
    }
}
