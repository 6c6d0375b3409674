/** Promise 7: power. */
public final class PowerTest {
    private static final int[] WRONG_WRITES = {-1, 11, 12, Integer.MIN_VALUE, Integer.MAX_VALUE};
    private static final int[] WRONG_BYTES = {-1, 201, 202, Integer.MIN_VALUE, Integer.MAX_VALUE};

    public static void main(String[] args) {
        Expect expect = new Expect("PowerTest");
        expect.holds("Power fails in the next set", PowerTest::nextSetOnly);
        expect.holds("as WRITE k (the first is 0) of it is cut after b bytes", PowerTest::writeThatIsCut);
        expect.holds("as WRITE k (the first is 0) of it is cut after b bytes", PowerTest::writesWithoutParity);
        expect.holds("as WRITE k (the first is 0) of it is cut after b bytes", PowerTest::writesWithoutBlock);
        expect.holds("(all, if it has fewer)", PowerTest::fewerBytes);
        expect.holds("or, if it has not so many, at its end", PowerTest::atItsEnd);
        expect.holds("or (in recover) in the next recover likewise", PowerTest::inRecover);
        expect.holds("or (in recover) in the next recover likewise", PowerTest::inRecoverAtItsEnd);
        expect.holds("What was said before is forgotten", PowerTest::lastWordCounts);
        expect.holds("What was said before is forgotten", PowerTest::setForRecover);
        expect.holds("What was said before is forgotten", PowerTest::recoverForSet);
        expect.holds("it waits through other calls", PowerTest::waitsForSet);
        expect.holds("it waits through other calls", PowerTest::waitsForRecover);
        expect.holds("it waits through other calls", PowerTest::waitsThroughRefusedCalls);
        expect.holds("(not through recover)", PowerTest::notThroughRecover);
        expect.holds("IllegalArgumentException if k is not 0 to 10", PowerTest::wrongWrites);
        expect.holds("IllegalArgumentException if k is not 0 to 10, b not 0 to 200", PowerTest::wrongBytes);
        expect.end();
    }

    private static void nextSetOnly(Expect expect) {
        ParityArray x = new ParityArray();
        expect.answers("the set before", 0, () -> x.set(9, 3, 1));
        x.power(0, 0, false);
        expect.refuses("the next set", Expect.POWER, () -> x.set(9, 3, 2));
        expect.works("the recover behind it", x::recover);
        expect.answers("the set behind it", 1, () -> x.set(9, 3, 3));
        expect.answers("and one more", 3, () -> x.set(9, 3, 4));
    }

    private static void writeThatIsCut(Expect expect) {
        ParityArray x = new ParityArray();
        expectCut(expect, "record", x, 0, 0, Given.OLD);
        expectCut(expect, "record", x, 0, Given.TO_HALF, Given.OLD);
        expectCut(expect, "record", x, 0, 136, Given.OLD);
        expectCut(expect, "block", x, 1, 0, Given.OLD);
        expectCut(expect, "block", x, 1, 24, Given.OLD);
        expectCut(expect, "block", x, 1, Given.TO_HALF, Given.HALF);
        expectCut(expect, "block", x, 1, 32, Given.NEW);
        expectCut(expect, "block", x, 1, 128, Given.NEW);
        expectCut(expect, "parity", x, 2, 0, Given.NEW);
        expectCut(expect, "parity", x, 2, Given.TO_HALF, Given.NEW);
        expectCut(expect, "parity", x, 2, 128, Given.NEW);
    }

    /** Block 9 is of stripe 2, whose parity is on disk 2. */
    private static void writesWithoutParity(Expect expect) {
        for (ParityArray x : new ParityArray[] {Given.dead(2), Given.renewed(2, 2)}) {
            expectCut(expect, "block, no record before it", x, 0, 0, Given.OLD);
            expectCut(expect, "block, no record before it", x, 0, Given.TO_HALF, Given.HALF);
            expectCut(expect, "block, no record before it", x, 0, 128, Given.NEW);
        }
    }

    /** Block 9 is on disk 1. */
    private static void writesWithoutBlock(Expect expect) {
        for (ParityArray x : new ParityArray[] {Given.dead(1), Given.renewed(1, 2)}) {
            expectCut(expect, "record", x, 0, 0, Given.OLD);
            expectCut(expect, "record", x, 0, 136, Given.OLD);
            expectCut(expect, "parity behind the record", x, 1, 0, Given.OLD);
            expectCut(expect, "parity behind the record", x, 1, Given.TO_HALF, Given.HALF);
            expectCut(expect, "parity behind the record", x, 1, 128, Given.NEW);
        }
    }

    private static void fewerBytes(Expect expect) {
        ParityArray x = new ParityArray();
        for (int b : new int[] {129, 136, 137, 200}) {
            expectCut(expect, "record", x, 0, b, Given.OLD);
            expectCut(expect, "block", x, 1, b, Given.NEW);
            expectCut(expect, "parity", x, 2, b, Given.NEW);
        }
        ParityArray noParity = Given.dead(2);
        ParityArray noBlock = Given.dead(1);
        for (int b : new int[] {129, 200}) {
            expectCut(expect, "block, no record before it", noParity, 0, b, Given.NEW);
            expectCut(expect, "parity, the block is not there", noBlock, 1, b, Given.NEW);
        }
    }

    private static void atItsEnd(Expect expect) {
        for (int k = 3; k <= 10; k++) {
            ParityArray x = new ParityArray();
            expectCut(expect, "three writes", x, k, 0, Given.NEW);
            expectCut(expect, "three writes", x, k, 200, Given.NEW);
        }
        for (int k = 2; k <= 10; k++) {
            ParityArray x = Given.dead(1);
            expectCut(expect, "two writes", x, k, 0, Given.NEW);
        }
        for (int k = 1; k <= 10; k++) {
            ParityArray x = Given.dead(2);
            expectCut(expect, "one write", x, k, 0, Given.NEW);
        }
    }

    /** Cuts write k of a set of LONG 3 of block 9 after b bytes; due is what is read of it then. */
    private static void expectCut(Expect expect, String write, ParityArray x, int k, int b, long due) {
        String what = write + ", write " + k + " cut after " + b + ": ";
        x.set(9, 3, Given.OLD);
        x.power(k, b, false);
        expect.refuses(what + "set", Expect.POWER, () -> x.set(9, 3, Given.NEW));
        expect.answers(what + "told(0)", 0, () -> x.told(0));
        x.recover();
        expect.answers(what + "get", due, () -> x.get(9, 3));
        expect.answers(what + "the last long", 0, () -> x.get(9, 15));
        expect.answers(what + "check()", 0, x::check);
    }

    private static void inRecover(Expect expect) {
        for (int b : new int[] {0, 1, Given.TO_HALF, 127, 128, 200}) {
            ParityArray x = new ParityArray();
            x.set(9, 3, Given.OLD);
            Given.cutSet(x, 9, 3, Given.NEW, 1, Given.TO_HALF);
            x.power(0, b, true);
            expect.refuses("the next recover, cut after " + b, Expect.POWER, x::recover);
            expect.answers("told(0)", 0, () -> x.told(0));
            expect.works("the one behind it", x::recover);
            expect.answers("told(0)", 1, () -> x.told(0));
            expect.answers("get", Given.HALF, () -> x.get(9, 3));
            expect.answers("check()", 0, x::check);
        }
    }

    private static void inRecoverAtItsEnd(Expect expect) {
        for (int k = 0; k <= 10; k++) {
            ParityArray x = new ParityArray();
            x.power(k, 0, true);
            expect.refuses("a recover with nothing to write", Expect.POWER, x::recover);
            expect.answers("told(0)", 0, () -> x.told(0));
            expect.works("the one behind it", x::recover);
        }
        ParityArray y = new ParityArray();
        y.set(9, 3, Given.OLD);
        Given.cutSet(y, 9, 3, Given.NEW, 1, Given.TO_HALF);
        y.power(10, 200, true);
        expect.refuses("a recover behind a cut set", Expect.POWER, y::recover);
        expect.works("the one behind it", y::recover);
        expect.answers("get", Given.HALF, () -> y.get(9, 3));
    }

    private static void lastWordCounts(Expect expect) {
        ParityArray x = new ParityArray();
        x.set(9, 3, Given.OLD);
        x.power(0, 0, false);
        x.power(3, 0, false);
        x.power(1, Given.TO_HALF, false);
        expect.refuses("set", Expect.POWER, () -> x.set(9, 3, Given.NEW));
        x.recover();
        expect.answers("as the last word said", Given.HALF, () -> x.get(9, 3));
        expect.answers("the words before it are no more", Given.HALF, () -> x.set(9, 3, 0));
    }

    private static void setForRecover(Expect expect) {
        ParityArray x = new ParityArray();
        x.power(0, 0, false);
        x.power(0, 0, true);
        expect.answers("set", 0, () -> x.set(9, 3, 1));
        expect.refuses("recover", Expect.POWER, x::recover);
    }

    private static void recoverForSet(Expect expect) {
        ParityArray x = new ParityArray();
        x.power(0, 0, true);
        x.power(0, 0, false);
        expect.works("recover", x::recover);
        x.power(0, 0, true);
        x.power(0, 0, false);
        expect.refuses("set", Expect.POWER, () -> x.set(9, 3, 1));
        expect.works("recover behind it", x::recover);
    }

    private static void waitsForSet(Expect expect) {
        ParityArray x = new ParityArray();
        x.set(9, 3, Given.OLD);
        x.power(1, Given.TO_HALF, false);
        expect.answers("get", Given.OLD, () -> x.get(9, 3));
        expect.answers("told", 1, () -> x.told(0));
        expect.answers("check", 0, x::check);
        expect.works("die", () -> x.die(0));
        expect.answers("replace", 0, x::replace);
        for (int left = 149; left >= 0; left--) {
            expect.answers("rebuild", left, x::rebuild);
        }
        expect.refuses("set", Expect.POWER, () -> x.set(9, 3, Given.NEW));
        x.recover();
        expect.answers("get", Given.HALF, () -> x.get(9, 3));
    }

    private static void waitsForRecover(Expect expect) {
        ParityArray x = new ParityArray();
        x.power(0, 0, true);
        expect.answers("get", 0, () -> x.get(9, 3));
        expect.answers("told", 1, () -> x.told(0));
        expect.answers("check", 0, x::check);
        expect.works("die", () -> x.die(0));
        expect.answers("replace", 0, x::replace);
        expect.answers("rebuild", 149, x::rebuild);
        expect.answers("set", 0, () -> x.set(9, 3, 1));
        expect.answers("set again", 1, () -> x.set(9, 3, 2));
        expect.refuses("recover", Expect.POWER, x::recover);
    }

    private static void waitsThroughRefusedCalls(Expect expect) {
        ParityArray x = new ParityArray();
        x.power(3, 0, false);
        expect.refuses("set of no block", Expect.INDEX, () -> x.set(600, 0, 1));
        expect.refuses("set of no long", Expect.INDEX, () -> x.set(0, 16, 1));
        expect.refuses("get of no block", Expect.INDEX, () -> x.get(-1, 0));
        expect.refuses("die", Expect.INDEX, () -> x.die(5));
        expect.refuses("replace", Expect.STATE, x::replace);
        expect.refuses("rebuild", Expect.STATE, x::rebuild);
        expect.refuses("told", Expect.ARGUMENT, () -> x.told(4));
        expect.answers("told(0)", 1, () -> x.told(0));
        expect.refuses("set", Expect.POWER, () -> x.set(0, 0, 1));
        x.power(0, 0, true);
        expect.refuses("set while off", Expect.STATE, () -> x.set(0, 0, 2));
        expect.refuses("get while off", Expect.STATE, () -> x.get(0, 0));
        expect.refuses("check while off", Expect.STATE, x::check);
        expect.refuses("recover", Expect.POWER, x::recover);
    }

    private static void notThroughRecover(Expect expect) {
        ParityArray x = new ParityArray();
        x.power(0, 0, false);
        expect.works("recover while on", x::recover);
        expect.answers("set behind it", 0, () -> x.set(9, 3, 1));
        Given.cutSet(x, 9, 3, 2, 0, 0);
        x.power(0, 0, false);
        expect.works("recover while off", x::recover);
        expect.answers("set behind it", 1, () -> x.set(9, 3, 3));
    }

    private static void wrongWrites(Expect expect) {
        ParityArray x = new ParityArray();
        for (int k : WRONG_WRITES) {
            for (int b : new int[] {0, 200}) {
                expectRefused(expect, x, k, b);
            }
        }
        expectTaken(expect, x, 0, 0);
        expectTaken(expect, x, 10, 0);
    }

    private static void wrongBytes(Expect expect) {
        ParityArray x = new ParityArray();
        for (int b : WRONG_BYTES) {
            for (int k : new int[] {0, 10, -1, 11}) {
                expectRefused(expect, x, k, b);
            }
        }
        expectTaken(expect, x, 0, 200);
        expectTaken(expect, x, 10, 200);
    }

    private static void expectRefused(Expect expect, ParityArray x, int k, int b) {
        expect.refuses("power(" + k + ", " + b + ", false)", Expect.ARGUMENT, () -> x.power(k, b, false));
        expect.refuses("power(" + k + ", " + b + ", true)", Expect.ARGUMENT, () -> x.power(k, b, true));
        expect.answers("nothing was said", 0, () -> x.set(9, 3, 0));
        expect.works("nothing was said", x::recover);
    }

    private static void expectTaken(Expect expect, ParityArray x, int k, int b) {
        expect.works("power(" + k + ", " + b + ", false)", () -> x.power(k, b, false));
        expect.refuses("set", Expect.POWER, () -> x.set(9, 3, 0));
        expect.works("power(" + k + ", " + b + ", true) while off", () -> x.power(k, b, true));
        expect.refuses("recover", Expect.POWER, x::recover);
        x.recover();
    }
}
