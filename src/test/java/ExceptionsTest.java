import java.util.ArrayList;
import java.util.List;

/** Terms, third part: which exception is thrown, and that what throws changes nothing. */
public final class ExceptionsTest {
    /** A call whose object is given to it later. */
    private interface On {
        long make(ParityArray x);
    }

    private record Named(String name, On call) {
    }

    public static void main(String[] args) {
        Expect expect = new Expect("ExceptionsTest");
        String first = "Of several exceptions the one is thrown that the heading of the call names first";
        expect.holds(first, ExceptionsTest::setOffFirst);
        expect.holds(first, ExceptionsTest::setWrongPlaceBeforePower);
        expect.holds(first, ExceptionsTest::getOffFirst);
        expect.holds(first, ExceptionsTest::dieWrongDiskFirst);
        String nothing = "what throws changes nothing";
        for (Named refused : refusedCalls()) {
            expect.holds(nothing, own -> changesNothing(own, refused));
        }
        expect.holds("but where power failed", ExceptionsTest::powerFailed);
        expect.end();
    }

    private static void setOffFirst(Expect expect) {
        ParityArray x = Given.off();
        x.power(0, 0, false);
        expect.refuses("off, power would fail", Expect.STATE, () -> x.set(9, 3, 1));
        expect.refuses("off, no block", Expect.STATE, () -> x.set(600, 3, 1));
        expect.refuses("off, no long", Expect.STATE, () -> x.set(9, 16, 1));
        expect.refuses("off, neither", Expect.STATE, () -> x.set(-1, -1, 1));
    }

    private static void setWrongPlaceBeforePower(Expect expect) {
        ParityArray x = new ParityArray();
        x.power(0, 0, false);
        expect.refuses("no block, power would fail", Expect.INDEX, () -> x.set(600, 3, 1));
        expect.refuses("no long, power would fail", Expect.INDEX, () -> x.set(9, -1, 1));
        expect.answers("told(0)", 1, () -> x.told(0));
    }

    private static void getOffFirst(Expect expect) {
        ParityArray x = Given.off();
        expect.refuses("off, no block", Expect.STATE, () -> x.get(-1, 3));
        expect.refuses("off, no long", Expect.STATE, () -> x.get(9, 16));
    }

    private static void dieWrongDiskFirst(Expect expect) {
        ParityArray[] states = {Given.off(), Given.offByRecover(), Given.dead(0), Given.renewed(0, 149)};
        for (ParityArray x : states) {
            expect.refuses("die(5)", Expect.INDEX, () -> x.die(5));
            expect.refuses("die(-1)", Expect.INDEX, () -> x.die(-1));
            expect.refuses("die(4)", Expect.STATE, () -> x.die(4));
        }
    }

    /** Each of them is refused in one of the states at least. */
    private static List<Named> refusedCalls() {
        List<Named> calls = new ArrayList<>();
        calls.add(new Named("set(9, 3, 77)", x -> x.set(9, 3, 77)));
        calls.add(new Named("set(-1, 3, 77)", x -> x.set(-1, 3, 77)));
        calls.add(new Named("set(600, 3, 77)", x -> x.set(600, 3, 77)));
        calls.add(new Named("set(9, -1, 77)", x -> x.set(9, -1, 77)));
        calls.add(new Named("set(9, 16, 77)", x -> x.set(9, 16, 77)));
        calls.add(new Named("get(9, 3)", x -> x.get(9, 3)));
        calls.add(new Named("get(600, 3)", x -> x.get(600, 3)));
        calls.add(new Named("get(9, 16)", x -> x.get(9, 16)));
        for (int d : new int[] {-1, 0, 1, 2, 5}) {
            calls.add(new Named("die(" + d + ")", x -> {
                x.die(d);
                return 0;
            }));
        }
        calls.add(new Named("replace()", ParityArray::replace));
        calls.add(new Named("rebuild()", ParityArray::rebuild));
        for (int[] wrong : new int[][] {{-1, 0}, {11, 0}, {0, -1}, {0, 201}}) {
            for (boolean recover : new boolean[] {false, true}) {
                calls.add(new Named("power(" + wrong[0] + ", " + wrong[1] + ", " + recover + ")", x -> {
                    x.power(wrong[0], wrong[1], recover);
                    return 0;
                }));
            }
        }
        calls.add(new Named("told(-1)", x -> x.told(-1)));
        calls.add(new Named("told(4)", x -> x.told(4)));
        calls.add(new Named("check()", ParityArray::check));
        return calls;
    }

    /** Of two objects with the same calls one has the refused call too: all that they answer later is the same. */
    private static void changesNothing(Expect expect, Named refused) {
        for (int state = 0; state < 6; state++) {
            for (int word = 0; word < 3; word++) {
                ParityArray with = inState(state);
                ParityArray without = inState(state);
                sayPower(with, word);
                sayPower(without, word);
                String got = Expect.outcome(() -> refused.call.make(with));
                if (isRefusal(got)) {
                    expect.judge("behind " + refused.name + " in state " + state + ", power's word " + word,
                        laterAnswers(without), laterAnswers(with));
                }
            }
        }
    }

    private static boolean isRefusal(String got) {
        return got.startsWith("java.lang.") && !got.equals(Expect.POWER.getName());
    }

    /** On or off, with all disks well, disk 1 dead, or disk 1 new. */
    private static ParityArray inState(int state) {
        ParityArray x = new ParityArray();
        Given.fillStripe(x, 2, 3);
        if (state % 3 > 0) {
            x.die(1);
        }
        if (state % 3 > 1) {
            x.replace();
            Given.rebuild(x, 2);
        }
        if (state >= 3) {
            Given.cutSet(x, 10, 3, Given.NEW, 1, Given.TO_HALF);
        }
        return x;
    }

    private static void sayPower(ParityArray x, int word) {
        if (word > 0) {
            x.power(1, Given.TO_HALF, word == 2);
        }
    }

    private static String laterAnswers(ParityArray x) {
        StringBuilder answers = new StringBuilder();
        look(answers, x);
        note(answers, () -> x.set(9, 3, Given.NEW));
        look(answers, x);
        for (int times = 0; times < 2; times++) {
            note(answers, () -> {
                x.recover();
                return 0;
            });
            look(answers, x);
        }
        note(answers, x::replace);
        note(answers, x::rebuild);
        look(answers, x);
        note(answers, () -> x.set(11, 3, 5));
        note(answers, () -> {
            x.die(4);
            return 0;
        });
        look(answers, x);
        return answers.toString();
    }

    private static void look(StringBuilder answers, ParityArray x) {
        for (int what = 0; what < 4; what++) {
            int asked = what;
            note(answers, () -> x.told(asked));
        }
        for (int n = 7; n < 13; n++) {
            int block = n;
            note(answers, () -> x.get(block, 3));
        }
        note(answers, () -> x.get(9, 15));
        note(answers, x::check);
    }

    private static void note(StringBuilder answers, Expect.Call call) {
        answers.append(Expect.outcome(call)).append(' ');
    }

    private static void powerFailed(Expect expect) {
        ParityArray x = new ParityArray();
        x.set(9, 3, Given.OLD);
        x.power(1, Given.TO_HALF, false);
        expect.refuses("set", Expect.POWER, () -> x.set(9, 3, Given.NEW));
        expect.answers("told(0)", 0, () -> x.told(0));
        expect.works("recover", x::recover);
        expect.answers("get", Given.HALF, () -> x.get(9, 3));
        x.power(0, 0, true);
        expect.refuses("recover", Expect.POWER, x::recover);
        expect.answers("told(0)", 0, () -> x.told(0));
    }
}
