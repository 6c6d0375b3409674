/** For each promise of the document: ordinary inputs, the edges that it names, and wrong inputs. */
public final class PromisesTest {
    private static final Class<IllegalStateException> STATE = IllegalStateException.class;
    private static final Class<IndexOutOfBoundsException> INDEX = IndexOutOfBoundsException.class;
    private static final Class<ArithmeticException> POWER = ArithmeticException.class;
    private static final Class<IllegalArgumentException> ARGUMENT = IllegalArgumentException.class;

    private static final long OLD = 0x1112131415161718L;
    private static final long NEW = 0xa1a2a3a4a5a6a7a8L;

    private final Expect expect = new Expect("PromisesTest");

    public static void main(String[] args) {
        PromisesTest test = new PromisesTest();
        test.promise1NewObject();
        test.promise2SetAnswersWhatWas();
        test.promise2SetRefusals();
        test.promise2SetChangesNothingWhenItRefuses();
        test.promise3Get();
        test.promise3GetWithEachDiskDead();
        test.promise4Die();
        test.promise5Replace();
        test.promise6Rebuild();
        test.promise6RebuiltStripesAreThere();
        test.promise6EachDiskInTurn();
        test.promise7CutsWithAllDisksWell();
        test.promise7CutsWithAnotherBlocksDiskDead();
        test.promise7CutsWithBlocksDiskDead();
        test.promise7CutsWithParityDiskDead();
        test.promise7ParityGoesRound();
        test.promise7Waits();
        test.promise7Refusals();
        test.promise8Recover();
        test.promise8RecoverCutAtEveryByte();
        test.promise8RecoverAfterReplaceWhileOff();
        test.promise8RecordOfALostDiskIsForgotten();
        test.promise9Told();
        test.promise10Check();
        test.expect.end();
    }

    private void promise1NewObject() {
        ParityArray x = new ParityArray();
        expect.answers("1: is on", 1, () -> x.told(0));
        expect.answers("1: no disk is unwell", -1, () -> x.told(1));
        expect.answers("1: none is new", 0, () -> x.told(2));
        expect.answers("1: none is rebuilt", 0, () -> x.told(3));
        expect.answers("1: first long", 0, () -> x.get(0, 0));
        expect.answers("1: last long", 0, () -> x.get(599, 15));
        expect.answers("1: check", 0, x::check);
        expect.answers("1: no power failure waits for a set", 0, () -> x.set(3, 3, 3));
        expect.works("1: no power failure waits for a recover", x::recover);
        ParityArray other = new ParityArray();
        expect.answers("1: objects share nothing", 0, () -> other.get(3, 3));
    }

    private void promise2SetAnswersWhatWas() {
        ParityArray x = new ParityArray();
        for (int n : new int[] {0, 1, 4, 299, 598, 599}) {
            for (int i : new int[] {0, 7, 15}) {
                expect.answers("2: first set", 0, () -> x.set(n, i, OLD + n + i));
                expect.answers("2: second set", OLD + n + i, () -> x.set(n, i, Long.MIN_VALUE));
                expect.answers("2: the same again", Long.MIN_VALUE, () -> x.set(n, i, Long.MIN_VALUE));
                expect.answers("2: get", Long.MIN_VALUE, () -> x.get(n, i));
            }
        }
        expect.answers("2: its neighbour in the block", 0, () -> x.get(299, 8));
        expect.answers("2: its neighbour in the stripe", 0, () -> x.get(298, 7));
    }

    private void promise2SetRefusals() {
        ParityArray x = new ParityArray();
        for (int[] wrong : wrongPlaces()) {
            expect.refuses("2: no such place", INDEX, () -> x.set(wrong[0], wrong[1], 1));
        }
        cut(x, 9, 3, 0, 0);
        expect.refuses("2: off", STATE, () -> x.set(9, 3, 1));
        expect.refuses("2: off comes before a wrong place", STATE, () -> x.set(600, 16, 1));
    }

    private void promise2SetChangesNothingWhenItRefuses() {
        ParityArray x = new ParityArray();
        x.set(9, 3, OLD);
        x.power(3, 0, false);
        expect.refuses("2: no such block", INDEX, () -> x.set(600, 3, NEW));
        expect.answers("2: is on behind a wrong place", 1, () -> x.told(0));
        expect.refuses("2: what power said waits through that", POWER, () -> x.set(9, 3, NEW));
        expect.refuses("2: off", STATE, () -> x.set(9, 3, 5));
        x.recover();
        expect.answers("2: as the cut set left it", NEW, () -> x.get(9, 3));
    }

    private void promise3Get() {
        ParityArray x = new ParityArray();
        for (int[] wrong : wrongPlaces()) {
            expect.refuses("3: no such place", INDEX, () -> x.get(wrong[0], wrong[1]));
        }
        x.set(599, 15, NEW);
        expect.answers("3: get", NEW, () -> x.get(599, 15));
        cut(x, 0, 0, 0, 0);
        expect.refuses("3: off", STATE, () -> x.get(599, 15));
        expect.refuses("3: off comes before a wrong place", STATE, () -> x.get(-1, 0));
        x.recover();
        expect.answers("3: get after recover", NEW, () -> x.get(599, 15));
    }

    private static int[][] wrongPlaces() {
        return new int[][] {
            {-1, 0}, {600, 0}, {0, -1}, {0, 16}, {599, 16}, {-1, 16}, {600, -1},
            {Integer.MIN_VALUE, 0}, {Integer.MAX_VALUE, 0}, {0, Integer.MIN_VALUE}, {0, Integer.MAX_VALUE},
        };
    }

    private void promise3GetWithEachDiskDead() {
        for (int d = 0; d < 5; d++) {
            ParityArray x = new ParityArray();
            for (int n = 0; n < 40; n++) {
                x.set(n, n % 16, OLD * n);
            }
            x.die(d);
            for (int n = 0; n < 40; n++) {
                int block = n;
                expect.answers("3: without a disk", OLD * block, () -> x.get(block, block % 16));
                expect.answers("3: set without a disk", OLD * block, () -> x.set(block, block % 16, NEW * block));
            }
            for (int n = 0; n < 40; n++) {
                int block = n;
                expect.answers("3: set without a disk, then get", NEW * block, () -> x.get(block, block % 16));
            }
        }
    }

    private void promise4Die() {
        ParityArray x = new ParityArray();
        for (int d : new int[] {-1, 5, Integer.MIN_VALUE, Integer.MAX_VALUE}) {
            expect.refuses("4: no such disk", INDEX, () -> x.die(d));
        }
        expect.answers("4: none died", -1, () -> x.told(1));
        cut(x, 0, 0, 0, 0);
        expect.refuses("4: off", STATE, () -> x.die(0));
        expect.refuses("4: no such disk comes before off", INDEX, () -> x.die(5));
        x.recover();
        expect.works("4: die", () -> x.die(4));
        expect.answers("4: which died", 4, () -> x.told(1));
        expect.answers("4: it is not new", 0, () -> x.told(2));
        expect.refuses("4: one is dead", STATE, () -> x.die(0));
        expect.refuses("4: that one is dead", STATE, () -> x.die(4));
        expect.refuses("4: no such disk comes before one is dead", INDEX, () -> x.die(-1));
        x.replace();
        expect.refuses("4: one is new", STATE, () -> x.die(0));
        expect.refuses("4: that one is new", STATE, () -> x.die(4));
        rebuildTimes(x, 149);
        expect.refuses("4: one is new till its last stripe", STATE, () -> x.die(0));
        rebuildTimes(x, 1);
        expect.works("4: all are well again", () -> x.die(0));
        expect.answers("4: which died then", 0, () -> x.told(1));
    }

    private void promise5Replace() {
        ParityArray x = new ParityArray();
        expect.refuses("5: all are well", STATE, x::replace);
        x.die(2);
        expect.answers("5: its number", 2, x::replace);
        expect.answers("5: it is new", 1, () -> x.told(2));
        expect.answers("5: which is not well", 2, () -> x.told(1));
        expect.refuses("5: it is not dead any more", STATE, x::replace);
        rebuildTimes(x, 150);
        expect.refuses("5: all are well again", STATE, x::replace);
        x.die(0);
        cut(x, 0, 0, 0, 0);
        expect.answers("5: while off", 0, x::replace);
        expect.answers("5: is off still", 0, () -> x.told(0));
        expect.answers("5: none of it is rebuilt", 0, () -> x.told(3));
    }

    private void promise6Rebuild() {
        ParityArray x = new ParityArray();
        expect.refuses("6: all are well", STATE, x::rebuild);
        x.die(3);
        expect.refuses("6: one is dead", STATE, x::rebuild);
        x.replace();
        cut(x, 0, 0, 0, 0);
        expect.refuses("6: off", STATE, x::rebuild);
        expect.answers("6: nothing was rebuilt", 0, () -> x.told(3));
        x.recover();
        for (int left = 149; left >= 0; left--) {
            expect.answers("6: how many are left", left, x::rebuild);
        }
        expect.answers("6: it is well", -1, () -> x.told(1));
        expect.refuses("6: none is new any more", STATE, x::rebuild);
        expect.answers("6: check", 0, x::check);
    }

    /** Which write brings the new block tells whether its parity is THERE. */
    private void promise6RebuiltStripesAreThere() {
        ParityArray x = new ParityArray();
        x.die(1);
        x.replace();
        rebuildTimes(x, 2);
        // Disk 1 holds block 0 of stripe 0, the parity of stripe 1, block 9 of stripe 2 and the parity of stripe 6.
        expectCut("6: block of a rebuilt stripe, its record", x, 0, 0, 200, OLD);
        expectCut("6: block of a rebuilt stripe", x, 0, 1, 28, 0xa1a2a3a415161718L);
        expectCut("6: parity of a rebuilt stripe, the record", x, 5, 0, 200, OLD);
        expectCut("6: block of a stripe not rebuilt, the record", x, 9, 0, 200, OLD);
        expectCut("6: block of a stripe not rebuilt, the parity", x, 9, 1, 28, 0xa1a2a3a415161718L);
        expectCut("6: parity of a stripe not rebuilt", x, 25, 0, 28, 0xa1a2a3a415161718L);
        rebuildTimes(x, 5);
        expectCut("6: the same, rebuilt", x, 25, 0, 200, OLD);
    }

    private void promise6EachDiskInTurn() {
        ParityArray x = new ParityArray();
        for (int s = 0; s < 5; s++) {
            x.set(4 * s + s % 4, s, OLD + s);
        }
        for (int d = 0; d < 2; d++) {
            x.die(d);
            x.set(4, 9, NEW + d);
            x.replace();
            rebuildTimes(x, 150);
            expect.answers("6: check with disk rebuilt", 0, x::check);
        }
        x.die(2);
        for (int s = 0; s < 5; s++) {
            int stripe = s;
            expect.answers("6: after two were rebuilt", OLD + stripe, () -> x.get(4 * stripe + stripe % 4, stripe));
        }
        expect.answers("6: set while one was dead", NEW + 1, () -> x.get(4, 9));
    }

    private void promise7CutsWithAllDisksWell() {
        ParityArray x = new ParityArray();
        for (int b : new int[] {0, 1, 8, 135, 136, 200}) {
            expectCut("7: cut in the record", x, 9, 0, b, OLD);
        }
        expectCutsInside("7: cut in the block", x, 9, 1);
        for (int b : new int[] {0, 1, 27, 127, 128, 200}) {
            expectCut("7: cut in the parity", x, 9, 2, b, NEW);
        }
        expectCut("7: cut at its end", x, 9, 3, 0, NEW);
        expectCut("7: cut at its end, last number", x, 9, 10, 200, NEW);
    }

    private void promise7CutsWithAnotherBlocksDiskDead() {
        ParityArray x = new ParityArray();
        x.set(10, 3, 10);
        x.set(11, 3, 11);
        x.die(3);
        for (int b : new int[] {0, 50, 135, 136}) {
            expectCut("7: another is dead, cut in the record", x, 9, 0, b, OLD);
        }
        expectCutsInside("7: another is dead, cut in the block", x, 9, 1);
        for (int b : new int[] {0, 27, 128}) {
            expectCut("7: another is dead, cut in the parity", x, 9, 2, b, NEW);
        }
        expectCut("7: another is dead, cut at its end", x, 9, 3, 0, NEW);
        expect.answers("7: the dead one's block", 10, () -> x.get(10, 3));
        expect.answers("7: the other block", 11, () -> x.get(11, 3));
    }

    private void promise7CutsWithBlocksDiskDead() {
        ParityArray x = new ParityArray();
        x.set(10, 3, 10);
        x.die(1);
        for (int b : new int[] {0, 50, 135, 136, 200}) {
            expectCut("7: block not there, cut in the record", x, 9, 0, b, OLD);
        }
        expectCutsInside("7: block not there, cut in the parity", x, 9, 1);
        expectCut("7: block not there, cut at its end", x, 9, 2, 0, NEW);
        expect.answers("7: the other block", 10, () -> x.get(10, 3));
    }

    private void promise7CutsWithParityDiskDead() {
        ParityArray x = new ParityArray();
        x.set(10, 3, 10);
        x.die(2);
        expectCutsInside("7: parity not there, cut in the block", x, 9, 0);
        expectCut("7: parity not there, cut at its end", x, 9, 1, 0, NEW);
        expect.answers("7: the other block", 10, () -> x.get(10, 3));
    }

    /** Cuts the write k that brings the new block, before, inside and behind LONG 3 (bytes 24 to 31). */
    private void expectCutsInside(String what, ParityArray x, int n, int k) {
        expectCut(what + ", before the long", x, n, k, 0, OLD);
        expectCut(what + ", before the long", x, n, k, 23, OLD);
        expectCut(what + ", at the long", x, n, k, 24, OLD);
        expectCut(what + ", 1 byte", x, n, k, 25, 0xa112131415161718L);
        expectCut(what + ", 2 bytes", x, n, k, 26, 0xa1a2131415161718L);
        expectCut(what + ", 4 bytes", x, n, k, 28, 0xa1a2a3a415161718L);
        expectCut(what + ", 7 bytes", x, n, k, 31, 0xa1a2a3a4a5a6a718L);
        expectCut(what + ", behind the long", x, n, k, 32, NEW);
        expectCut(what + ", all", x, n, k, 128, NEW);
        expectCut(what + ", more than all", x, n, k, 200, NEW);
    }

    /** Cuts write k of a set of LONG 3 of block n after b bytes; due is what is read of it then. */
    private void expectCut(String what, ParityArray x, int n, int k, int b, long due) {
        x.set(n, 3, OLD);
        x.power(k, b, false);
        expect.refuses(what + ": set", POWER, () -> x.set(n, 3, NEW));
        expect.answers(what + ": told", 0, () -> x.told(0));
        expect.refuses(what + ": get", STATE, () -> x.get(n, 3));
        expect.works(what + ": recover", x::recover);
        expect.answers(what + " after " + b, due, () -> x.get(n, 3));
        expect.answers(what + ": check", 0, x::check);
    }

    /** With a disk dead, a set's first write is the block just where the parity is on that disk, else a record. */
    private void promise7ParityGoesRound() {
        for (int d = 0; d < 5; d++) {
            for (int first = 0; first < 150; first += 50) {
                ParityArray x = new ParityArray();
                x.die(d);
                for (int s = first; s < first + 50; s++) {
                    long due = s % 5 == d ? NEW : OLD;
                    expectCut("7: stripe " + s + " without disk " + d, x, 4 * s + s % 4, 0, 200, due);
                }
            }
        }
    }

    private void promise7Waits() {
        ParityArray x = new ParityArray();
        x.set(9, 3, OLD);
        x.power(1, 28, false);
        x.get(9, 3);
        x.told(0);
        x.check();
        x.die(0);
        x.replace();
        x.rebuild();
        expect.refuses("7: waits through other calls", POWER, () -> x.set(9, 3, NEW));
        x.recover();
        expect.answers("7: and cuts as it was told", 0xa1a2a3a415161718L, () -> x.get(9, 3));
        expect.answers("7: only one set", 0xa1a2a3a415161718L, () -> x.set(9, 3, OLD));

        x.power(0, 0, false);
        x.recover();
        expect.answers("7: does not wait through recover", OLD, () -> x.set(9, 3, NEW));

        x.power(0, 0, false);
        x.power(1, 28, false);
        x.power(3, 0, false);
        expect.refuses("7: the last one counts", POWER, () -> x.set(9, 3, 1));
        x.recover();
        expect.answers("7: what was said before is forgotten", 1, () -> x.get(9, 3));

        x.power(0, 0, false);
        x.power(0, 0, true);
        expect.answers("7: one for recover replaces one for set", 1, () -> x.set(9, 3, 2));
        expect.answers("7: and waits through sets", 2, () -> x.set(9, 3, 3));
        expect.refuses("7: for recover", POWER, x::recover);
        expect.works("7: once", x::recover);

        x.power(0, 0, true);
        x.power(0, 0, false);
        expect.works("7: one for set replaces one for recover", x::recover);

        cut(x, 9, 3, 0, 0);
        x.power(0, 0, false);
        expect.works("7: one for set told while off", x::recover);
        expect.answers("7: is forgotten by recover", 3, () -> x.set(9, 3, 4));
    }

    private void promise7Refusals() {
        ParityArray x = new ParityArray();
        x.power(3, 0, false);
        int[][] wrongs = {
            {-1, 0}, {11, 0}, {0, -1}, {0, 201}, {-1, 201}, {11, -1},
            {Integer.MIN_VALUE, 0}, {Integer.MAX_VALUE, 0}, {0, Integer.MIN_VALUE}, {0, Integer.MAX_VALUE},
        };
        for (int[] wrong : wrongs) {
            expect.refuses("7: for set", ARGUMENT, () -> x.power(wrong[0], wrong[1], false));
            expect.refuses("7: for recover", ARGUMENT, () -> x.power(wrong[0], wrong[1], true));
        }
        expect.refuses("7: what was said before holds", POWER, () -> x.set(0, 0, NEW));
        expect.refuses("7: while off", ARGUMENT, () -> x.power(11, 0, true));
        expect.works("7: the edges", () -> x.power(10, 200, true));
        expect.refuses("7: the edges count", POWER, x::recover);
        x.recover();
        expect.answers("7: cut at its end", NEW, () -> x.get(0, 0));
    }

    private void promise8Recover() {
        ParityArray x = new ParityArray();
        x.set(0, 0, OLD);
        expect.works("8: while on", x::recover);
        expect.answers("8: on still", 1, () -> x.told(0));
        x.power(10, 0, true);
        expect.refuses("8: power fails while on", POWER, x::recover);
        expect.answers("8: off then", 0, () -> x.told(0));
        expect.refuses("8: get while off", STATE, () -> x.get(0, 0));
        expect.works("8: what was said is forgotten", x::recover);
        expect.answers("8: on again", 1, () -> x.told(0));
        expect.answers("8: nothing was lost", OLD, () -> x.get(0, 0));

        ParityArray untouched = new ParityArray();
        untouched.power(0, 0, true);
        expect.refuses("8: power fails at its end without a write", POWER, untouched::recover);
    }

    /** However often recover is cut, the block keeps what came of it and a dead disk's block is not harmed. */
    private void promise8RecoverCutAtEveryByte() {
        for (int dead = -1; dead < 5; dead++) {
            for (int b = 0; b <= 200; b += 3) {
                ParityArray x = new ParityArray();
                x.set(8, 3, 8);
                x.set(9, 3, OLD);
                x.set(10, 3, 10);
                x.set(11, 3, 11);
                if (dead >= 0) {
                    x.die(dead);
                }
                // The first write that changes the block: without its parity (disk 2) there is no record before it.
                cut(x, 9, 3, dead == 2 ? 0 : 1, 28);
                for (int k = 0; k < 3; k++) {
                    x.power(k, b, true);
                    expect.refuses("8: recover cut", POWER, x::recover);
                    expect.answers("8: off", 0, () -> x.told(0));
                }
                expect.works("8: at last", x::recover);
                expect.answers("8: block 8", 8, () -> x.get(8, 3));
                expect.answers("8: the cut block", 0xa1a2a3a415161718L, () -> x.get(9, 3));
                expect.answers("8: block 10", 10, () -> x.get(10, 3));
                expect.answers("8: block 11", 11, () -> x.get(11, 3));
                expect.answers("8: check", 0, x::check);
            }
        }
    }

    private void promise8RecoverAfterReplaceWhileOff() {
        for (int dead = 0; dead < 5; dead++) {
            ParityArray x = new ParityArray();
            x.set(8, 3, 8);
            x.set(9, 3, OLD);
            x.set(10, 3, 10);
            x.set(11, 3, 11);
            x.die(dead);
            cut(x, 9, 3, dead == 2 ? 0 : 1, 28);
            x.replace();
            x.recover();
            rebuildTimes(x, 150);
            expect.answers("8: replaced while off, block 8", 8, () -> x.get(8, 3));
            expect.answers("8: replaced while off, the cut block", 0xa1a2a3a415161718L, () -> x.get(9, 3));
            expect.answers("8: replaced while off, block 10", 10, () -> x.get(10, 3));
            expect.answers("8: replaced while off, block 11", 11, () -> x.get(11, 3));
            expect.answers("8: replaced while off, check", 0, x::check);
            x.recover();
            expect.answers("8: recover again, check", 0, x::check);
        }
    }

    private void promise8RecordOfALostDiskIsForgotten() {
        ParityArray x = new ParityArray();
        x.set(9, 3, OLD);
        x.die(2);
        x.set(10, 3, NEW);
        x.replace();
        rebuildTimes(x, 150);
        cut(x, 0, 0, 0, 0);
        x.recover();
        expect.answers("8: an old record is not used, check", 0, x::check);
        x.die(3);
        expect.answers("8: an old record is not used", NEW, () -> x.get(10, 3));
    }

    private void promise9Told() {
        ParityArray x = new ParityArray();
        for (int what : new int[] {-1, 4, Integer.MIN_VALUE, Integer.MAX_VALUE}) {
            expect.refuses("9: nothing to tell", ARGUMENT, () -> x.told(what));
        }
        expectTold(x, 1, -1, 0, 0);
        x.die(0);
        expectTold(x, 1, 0, 0, 0);
        x.replace();
        expectTold(x, 1, 0, 1, 0);
        x.rebuild();
        expectTold(x, 1, 0, 1, 1);
        rebuildTimes(x, 148);
        expectTold(x, 1, 0, 1, 149);
        cut(x, 0, 0, 0, 0);
        expectTold(x, 0, 0, 1, 149);
        expect.refuses("9: nothing to tell while off", ARGUMENT, () -> x.told(4));
        x.recover();
        expectTold(x, 1, 0, 1, 149);
        x.rebuild();
        expectTold(x, 1, -1, 0, 0);
        x.die(4);
        expectTold(x, 1, 4, 0, 0);
    }

    private void expectTold(ParityArray x, int on, int unwell, int isNew, int rebuilt) {
        expect.answers("9: on", on, () -> x.told(0));
        expect.answers("9: the disk that is not well", unwell, () -> x.told(1));
        expect.answers("9: it is new", isNew, () -> x.told(2));
        expect.answers("9: how many are rebuilt", rebuilt, () -> x.told(3));
    }

    private void promise10Check() {
        ParityArray x = new ParityArray();
        for (int n = 0; n < 600; n += 5) {
            x.set(n, n % 16, OLD * n);
        }
        expect.answers("10: check", 0, x::check);
        cut(x, 7, 7, 2, 60);
        expect.refuses("10: off", STATE, x::check);
        x.recover();
        expect.answers("10: after a cut in the parity", 0, x::check);
        x.die(1);
        x.set(7, 7, 7);
        expect.answers("10: one is dead", 0, x::check);
        x.replace();
        expect.answers("10: one is new", 0, x::check);
        rebuildTimes(x, 150);
        expect.answers("10: rebuilt", 0, x::check);
    }

    private void cut(ParityArray x, int n, int i, int k, int b) {
        x.power(k, b, false);
        expect.refuses("cut", POWER, () -> x.set(n, i, NEW));
    }

    private static void rebuildTimes(ParityArray x, int times) {
        for (int t = 0; t < times; t++) {
            x.rebuild();
        }
    }
}
