import java.lang.reflect.Constructor;
import java.lang.reflect.Field;
import java.lang.reflect.Method;
import java.lang.reflect.Modifier;
import java.util.Arrays;
import java.util.TreeSet;

/** The class shows the document's face and no more (LANGUAGE.md, rules 1 and 5). */
public final class FaceTest {
    private static final String[] FACE = {
        "public ParityArray()",
        "public long ParityArray.set(int,int,long) throws java.lang.IllegalStateException,"
            + "java.lang.IndexOutOfBoundsException,java.lang.ArithmeticException",
        "public long ParityArray.get(int,int) throws java.lang.IllegalStateException,"
            + "java.lang.IndexOutOfBoundsException",
        "public void ParityArray.die(int) throws java.lang.IndexOutOfBoundsException,"
            + "java.lang.IllegalStateException",
        "public int ParityArray.replace() throws java.lang.IllegalStateException",
        "public int ParityArray.rebuild() throws java.lang.IllegalStateException",
        "public void ParityArray.power(int,int,boolean) throws java.lang.IllegalArgumentException",
        "public void ParityArray.recover() throws java.lang.ArithmeticException",
        "public int ParityArray.told(int) throws java.lang.IllegalArgumentException",
        "public int ParityArray.check() throws java.lang.IllegalStateException",
    };

    public static void main(String[] args) {
        Expect expect = new Expect("FaceTest");
        TreeSet<String> due = new TreeSet<>(Arrays.asList(FACE));
        TreeSet<String> seen = new TreeSet<>();
        TreeSet<String> names = new TreeSet<>();
        for (Constructor<?> c : ParityArray.class.getDeclaredConstructors()) {
            note(seen, c.getModifiers(), c.toString());
        }
        for (Method m : ParityArray.class.getDeclaredMethods()) {
            note(seen, m.getModifiers(), m.toString());
            expect.judge("no other method is named " + m.getName(), "true", Boolean.toString(names.add(m.getName())));
        }
        for (Field f : ParityArray.class.getDeclaredFields()) {
            note(seen, f.getModifiers(), f.toString());
            expect.judge("static " + f.getName() + " is final", "true",
                Boolean.toString(!Modifier.isStatic(f.getModifiers()) || Modifier.isFinal(f.getModifiers())));
        }
        expect.judge("the face", due.toString(), seen.toString());
        expect.judge("the class's modifiers", "public final", Modifier.toString(ParityArray.class.getModifiers()));
        for (Class<?> c : ParityArray.class.getDeclaredClasses()) {
            int m = c.getModifiers();
            expect.judge(c.getName() + " is static and not public or protected", "true",
                Boolean.toString(Modifier.isStatic(m) && !Modifier.isPublic(m) && !Modifier.isProtected(m)));
        }
        expect.end();
    }

    private static void note(TreeSet<String> seen, int modifiers, String member) {
        if (!Modifier.isPrivate(modifiers)) {
            seen.add(member);
        }
    }
}
