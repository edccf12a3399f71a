import java.lang.reflect.Constructor;
import java.lang.reflect.Field;
import java.lang.reflect.Method;
import java.lang.reflect.Modifier;
import java.util.Arrays;
import java.util.Set;
import java.util.TreeSet;

/** The public face: the document's constants, constructor and methods, and nothing else that shows. */
public final class FaceTest {
    private static final String[] METHODS = {
        "int at(int) throws java.lang.ArrayIndexOutOfBoundsException",
        "int back(int,int,int,int)",
        "long below(int,long) throws java.lang.ArithmeticException",
        "long bits(int,int)",
        "long bitsOf(int)",
        "int choose(int)",
        "int coin(int,int,int)",
        "int count(int)",
        "int drawer(int,int)",
        "int hits(int,int,int,int)",
        "int key(long)",
        "long mask(int,int,int,int)",
        "int misses(int,int,int,int)",
        "long normal(int)",
        "int permutation(int,int)",
        "int place(int,long)",
        "double real(int)",
        "boolean same(int,int)",
        "int secret(int,int,int,int)",
        "float single(int)",
        "int split(int,int)",
        "int subset(int,int,int)",
        "long told(int,int)",
        "long weight(int,long)",
        "long word(int,int,long)",
    };

    public static void main(String[] args) {
        Due due = new Due("FaceTest");
        due.is("BAD", DrawStreams.BAD, -1);
        due.is("FULL", DrawStreams.FULL, -2);
        due.is("NONE", DrawStreams.NONE, -3);
        due.holds("the class is public and final", (DrawStreams.class.getModifiers() & (Modifier.PUBLIC | Modifier.FINAL)) == (Modifier.PUBLIC | Modifier.FINAL));
        methods(due);
        fields(due);
        constructors(due);
        for (Class<?> inner : DrawStreams.class.getDeclaredClasses()) {
            int m = inner.getModifiers();
            due.holds(inner + " is static, neither public nor protected", Modifier.isStatic(m) && (m & (Modifier.PUBLIC | Modifier.PROTECTED)) == 0);
        }
        due.end();
    }

    private static void methods(Due due) {
        Set<String> shown = new TreeSet<>();
        Set<String> names = new TreeSet<>();
        Set<String> hidden = new TreeSet<>();
        for (Method m : DrawStreams.class.getDeclaredMethods()) {
            if (Modifier.isPrivate(m.getModifiers())) {
                hidden.add(m.getName());
            } else {
                shown.add(m.toGenericString().replace("public ", "").replace("DrawStreams.", ""));
                names.add(m.getName());
                due.holds(m + " is public and not static", (m.getModifiers() & (Modifier.PUBLIC | Modifier.STATIC)) == Modifier.PUBLIC);
            }
        }
        due.holds("the methods are those of the document, not " + shown, shown.equals(new TreeSet<>(Arrays.asList(METHODS))));
        hidden.retainAll(names);
        due.holds("no private method bears a public one's name, as do " + hidden, hidden.isEmpty());
    }

    private static void fields(Due due) {
        Set<String> shown = new TreeSet<>();
        for (Field f : DrawStreams.class.getDeclaredFields()) {
            if (!Modifier.isPrivate(f.getModifiers())) {
                shown.add(f.toString());
            }
            due.holds(f + " is final if it is static", !Modifier.isStatic(f.getModifiers()) || Modifier.isFinal(f.getModifiers()));
        }
        Set<String> want = new TreeSet<>();
        for (String name : new String[] {"BAD", "FULL", "NONE"}) {
            want.add("public static final int DrawStreams." + name);
        }
        due.holds("the fields that show are the constants, not " + shown, shown.equals(want));
    }

    private static void constructors(Due due) {
        Constructor<?>[] made = DrawStreams.class.getDeclaredConstructors();
        due.is("how many constructors", made.length, 1);
        due.is("the constructor's parameters", made[0].getParameterCount(), 0);
        due.holds("the constructor is public", Modifier.isPublic(made[0].getModifiers()));
    }
}
