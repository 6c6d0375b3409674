/** Promise 9: told. */
public final class ToldTest {
    public static void main(String[] args) {
        Expect expect = new Expect("ToldTest");
        expect.holds("What 0: 1 if it is on, else 0", ToldTest::on);
        expect.holds("1: the DISK that is not WELL", ToldTest::notWell);
        expect.holds("(-1 without)", ToldTest::allWell);
        expect.holds("2: 1 if that is NEW", ToldTest::isNew);
        expect.holds("3: how many STRIPES of it are rebuilt", ToldTest::rebuilt);
        expect.holds("3: how many STRIPES of it are rebuilt", ToldTest::noneRebuilt);
        expect.holds("IllegalArgumentException for others", ToldTest::others);
        expect.end();
    }

    private static void on(Expect expect) {
        ParityArray x = new ParityArray();
        expect.answers("a new object", 1, () -> x.told(0));
        x.power(0, 0, false);
        expect.answers("power will fail", 1, () -> x.told(0));
        Given.cutSet(x, 9, 3, 1, 10, 0);
        expect.answers("a set was cut", 0, () -> x.told(0));
        x.power(0, 0, true);
        expect.answers("off still", 0, () -> x.told(0));
        Given.cutRecover(x, 10, 0);
        expect.answers("a recover was cut", 0, () -> x.told(0));
        x.recover();
        expect.answers("after recover", 1, () -> x.told(0));
        x.die(0);
        expect.answers("a disk is dead", 1, () -> x.told(0));
    }

    private static void notWell(Expect expect) {
        for (int d = 0; d < 5; d++) {
            ParityArray x = Given.dead(d);
            expect.answers("dead", d, () -> x.told(1));
            x.replace();
            expect.answers("new", d, () -> x.told(1));
            Given.rebuild(x, 149);
            expect.answers("new, one is left", d, () -> x.told(1));
            Given.cutSet(x, 9, 3, 1, 0, 0);
            expect.answers("while off", d, () -> x.told(1));
        }
    }

    private static void allWell(Expect expect) {
        ParityArray x = new ParityArray();
        expect.answers("a new object", -1, () -> x.told(1));
        Given.cutSet(x, 9, 3, 1, 0, 0);
        expect.answers("while off", -1, () -> x.told(1));
        for (int d = 0; d < 5; d++) {
            ParityArray y = Given.renewed(d, 150);
            expect.answers("disk " + d + " is rebuilt", -1, () -> y.told(1));
        }
    }

    private static void isNew(Expect expect) {
        ParityArray x = new ParityArray();
        expect.answers("all are well", 0, () -> x.told(2));
        for (int d = 0; d < 5; d++) {
            ParityArray y = Given.dead(d);
            expect.answers("dead", 0, () -> y.told(2));
            y.replace();
            expect.answers("new", 1, () -> y.told(2));
            Given.rebuild(y, 149);
            expect.answers("new, one is left", 1, () -> y.told(2));
            Given.cutSet(y, 9, 3, 1, 0, 0);
            expect.answers("new, while off", 1, () -> y.told(2));
            y.recover();
            y.rebuild();
            expect.answers("well again", 0, () -> y.told(2));
            y.die(d);
            expect.answers("dead once more", 0, () -> y.told(2));
        }
    }

    private static void rebuilt(Expect expect) {
        ParityArray x = Given.renewed(4, 0);
        for (int r = 0; r < 150; r++) {
            expect.answers("rebuilt", r, () -> x.told(3));
            x.rebuild();
        }
    }

    /** Without a disk that is not WELL there are no stripes of it. */
    private static void noneRebuilt(Expect expect) {
        ParityArray x = new ParityArray();
        expect.answers("all are well", 0, () -> x.told(3));
        x.die(4);
        expect.answers("dead", 0, () -> x.told(3));
        x.replace();
        expect.answers("new", 0, () -> x.told(3));
        Given.rebuild(x, 150);
        expect.answers("all are well again", 0, () -> x.told(3));
        x.die(1);
        expect.answers("another is dead", 0, () -> x.told(3));
        x.replace();
        expect.answers("another is new", 0, () -> x.told(3));
    }

    private static void others(Expect expect) {
        ParityArray[] states = {
            new ParityArray(), Given.off(), Given.offByRecover(), Given.dead(0), Given.renewed(0, 3),
        };
        for (ParityArray x : states) {
            for (int what : new int[] {-1, 4, 5, Integer.MIN_VALUE, Integer.MAX_VALUE}) {
                expect.refuses("told(" + what + ")", Expect.ARGUMENT, () -> x.told(what));
            }
        }
    }
}
