import java.lang.reflect.Array;
import java.lang.reflect.Constructor;
import java.lang.reflect.Field;
import java.lang.reflect.Method;

/**
 * LESS, of DEVIATES with three digits alike and with four. No place of a stream is known where a NORMAL
 * comes that far (NormalEdgesTest has places with two), so that this test, and no other, reaches into
 * the class: it lays digits into two of its DEVIATES and lets them take the rest from a drawer.
 */
public final class LessTest {
    private static final Due DUE = new Due("LessTest");
    private static final long[] NONE = {};
    private static final long[] THREE = {5, 4294967295L, 0};

    private final Drawn drawn;
    private final Object first;
    private final Object second;

    private LessTest(long place, long[] ofFirst, long[] ofSecond) throws ReflectiveOperationException {
        drawn = Drawn.at(place);
        first = deviate(ofFirst);
        second = deviate(ofSecond);
    }

    public static void main(String[] args) throws ReflectiveOperationException {
        DUE.sentence("for j from 0 on digit j of a, then that of b");
        // Words 9 and 10 rise, words 11 and 12 fall.
        isLess(9, NONE, NONE, true, 2);
        isLess(11, NONE, NONE, false, 2);
        isLess(9, THREE, THREE, true, 2);
        isLess(11, THREE, THREE, false, 2);
        isLess(9, THREE, with(3062868621L), true, 1);
        isLess(9, with(2390150300L), THREE, true, 1);
        isLess(9, with(2390150302L), THREE, false, 1);
        DUE.sentence("the first that differ tell");
        isLess(0, new long[] {5, 4294967295L, 0}, new long[] {5, 4294967295L, 1}, true, 0);
        isLess(0, new long[] {5, 4294967295L, 1}, new long[] {5, 4294967295L, 0}, false, 0);
        isLess(0, with(4294967294L), with(4294967295L), true, 0);
        isLess(0, with(4294967295L), with(4294967294L), false, 0);
        isLess(0, with(0), with(2147483648L), true, 0);
        DUE.sentence("when four of each are alike: not LESS");
        isLess(0, with(7), with(7), false, 0);
        isLess(0, with(0), with(0), false, 0);
        // Here two neighbours are alike: they become the fourth digits, and no fifth ones are taken.
        isLess(28919953629L, THREE, THREE, false, 2);
        isLess(135592931601L, THREE, THREE, false, 2);
        DUE.end();
    }

    private static void isLess(long place, long[] ofFirst, long[] ofSecond, boolean want, int words) throws ReflectiveOperationException {
        LessTest t = new LessTest(place, ofFirst, ofSecond);
        String call = "LESS at " + place + " with " + ofFirst.length + " and " + ofSecond.length + " digits";
        DUE.holds(call + " is " + want, t.less() == want);
        DUE.is("words of " + call, t.drawn.taken(), words);
    }

    /** Three digits and a fourth one. */
    private static long[] with(long fourth) {
        return new long[] {THREE[0], THREE[1], THREE[2], fourth};
    }

    private boolean less() throws ReflectiveOperationException {
        Object drawer = Array.get(open(DrawStreams.class, "drawers").get(drawn.x), 0);
        Method less = first.getClass().getDeclaredMethod("less", first.getClass(), drawer.getClass());
        less.setAccessible(true);
        return (Boolean) less.invoke(first, second, drawer);
    }

    private static Object deviate(long[] known) throws ReflectiveOperationException {
        Class<?> type = Class.forName("DrawStreams$Deviate");
        Constructor<?> maker = type.getDeclaredConstructor();
        maker.setAccessible(true);
        Object made = maker.newInstance();
        System.arraycopy(known, 0, open(type, "digits").get(made), 0, known.length);
        open(type, "known").setInt(made, known.length);
        return made;
    }

    private static Field open(Class<?> type, String name) throws ReflectiveOperationException {
        Field field = type.getDeclaredField(name);
        field.setAccessible(true);
        return field;
    }
}
