import java.lang.reflect.Constructor;
import java.lang.reflect.Field;
import java.lang.reflect.Method;
import java.lang.reflect.Modifier;
import java.util.Set;
import java.util.TreeSet;

/** The public face: just the members that the document names. */
public final class FaceTest {
    private static final String[] DUE = {
        "public RuleReader()",
        "public int RuleReader.feed(int,int,int,int,int) throws java.lang.IndexOutOfBoundsException",
        "public int RuleReader.end(int) throws java.lang.IllegalArgumentException",
        "public int RuleReader.read(boolean) throws java.lang.UnsupportedOperationException",
        "public int RuleReader.node(int,int) throws java.lang.IllegalArgumentException",
        "public long RuleReader.number(int) throws java.lang.IllegalArgumentException,"
            + "java.lang.UnsupportedOperationException,java.lang.ArithmeticException",
        "public int RuleReader.wrap(int,int,boolean) throws java.lang.IllegalArgumentException,"
            + "java.lang.IndexOutOfBoundsException",
        "public int RuleReader.add(int,int,long) throws java.lang.IllegalArgumentException,"
            + "java.lang.IndexOutOfBoundsException",
        "public int RuleReader.compare(int,int) throws java.lang.IllegalArgumentException",
        "public int RuleReader.count(int) throws java.lang.IllegalArgumentException",
        "public long RuleReader.word(int) throws java.lang.IndexOutOfBoundsException",
    };

    public static void main(String[] args) {
        Set<String> due = new TreeSet<>(Set.of(DUE));
        Set<String> found = new TreeSet<>();
        for (Constructor<?> c : RuleReader.class.getDeclaredConstructors()) {
            found.add(c.toString());
        }
        for (Method m : RuleReader.class.getDeclaredMethods()) {
            if (!Modifier.isPrivate(m.getModifiers())) {
                found.add(m.toString());
            }
        }
        for (Field f : RuleReader.class.getDeclaredFields()) {
            if (!Modifier.isPrivate(f.getModifiers())) {
                found.add(f.toString());
            }
        }
        for (String member : found) {
            Check.due(member + " is in the document (1)", 1, due.contains(member) ? 1 : 0);
        }
        for (String member : due) {
            Check.due(member + " is in the class (1)", 1, found.contains(member) ? 1 : 0);
        }
        int modifiers = RuleReader.class.getModifiers();
        Check.due("the class is public and final (1)", 1,
            Modifier.isPublic(modifiers) && Modifier.isFinal(modifiers) ? 1 : 0);
        Check.finish();
    }
}
