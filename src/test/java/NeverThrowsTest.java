import java.lang.reflect.InvocationTargetException;
import java.lang.reflect.Method;
import java.util.ArrayList;
import java.util.Comparator;
import java.util.List;
import java.util.NoSuchElementException;
import java.util.Random;

/**
 * Each call of the face with numbers of all sorts, on objects in all sorts of states: only parish throws, and only the
 * two exceptions that promise 6 names, never one of the machine's that stands below them. Each run is done on two
 * objects by turns, which must answer alike: nothing is shared, and nothing hangs on anything but the calls.
 */
public final class NeverThrowsTest {
    private static final int[] ODD = {Integer.MIN_VALUE, Integer.MIN_VALUE + 1, -65536, -101, -10, -3, -2, -1, 0, 0, 1, 1,
        2, 2, 3, 3, 4, 5, 6, 7, 8, 9, 10, 11, 12, 13, 19, 20, 23, 24, 25, 29, 30, 31, 39, 40, 41, 60, 61, 98, 99, 100, 199,
        200, 201, 700, 701, 999, 9799, 9800, 9801, 9999, 10000, 65535, 0x20202020, Integer.MAX_VALUE - 1,
        Integer.MAX_VALUE};
    private static final String FULL = "land 40;parish a 0 0;parish b 39 39;parish c 20 20;parish d 20 21;child a 30 9;"
        + "child b 1 0;child c 9 1;child d 8 2;child e 7 3;child f 6 4;beat a a 1 0;beat b b 0 1;beat c c 2 2;"
        + "beat d d 3 3;beat a e 2 4;beat b f 3 5;beat c a 0 6;beat d b 1 97;beat a c 1 98;beat b d 0 99;beat c e 3 0;"
        + "beat d f 2 0;cake a 1 9;cake b 3 9;rain 50;seed 99999;";
    private static final String[] TEXTS = {"", "land 5;parish a 2 2;", "child a 1 0;rain 100;",
        FULL, FULL + "law walk 9999*9999*9999*9999;law quarl 1/(year-3);law grow 0-9999;",
        FULL + "law walk (legs+sweet)*(2-wet)/(tired-far);law quarl far*far*far*far*far;law grow (mood-tired)*3;",
        FULL + "law walk 0-9999*9999*9999;law quarl not far or 0/0;law grow 9*(year/2*2=year)-4;"};
    // With those that tell the text and reach a state still below 512.
    private static final int CALLS = 370;
    private static final List<Method> FACE = face();

    private final Random random;
    private final BeatenBounds one = new BeatenBounds();
    private final BeatenBounds other = new BeatenBounds();

    private NeverThrowsTest(long seed) {
        random = new Random(seed);
    }

    public static void main(String[] args) throws IllegalAccessException {
        for (int seed = 0; seed < 700; seed++) {
            new NeverThrowsTest(seed).run(TEXTS[seed % TEXTS.length], seed / TEXTS.length % 4);
        }
        Due.end();
    }

    /** In the order of their names: reflection promises none. */
    private static List<Method> face() {
        List<Method> face = new ArrayList<>();
        for (Method method : BeatenBounds.class.getMethods()) {
            if (method.getDeclaringClass() == BeatenBounds.class) {
                face.add(method);
            }
        }
        face.sort(Comparator.comparing(Method::getName));
        return face;
    }

    private void run(String text, int state) throws IllegalAccessException {
        int lines = Texts.tell(one, text);
        Due.is("text: " + text, Texts.tell(other, text), lines);
        Due.is("no fault: " + text, lines >= 0, true);
        reach(one, state);
        reach(other, state);
        for (int k = 0; k < CALLS; k++) {
            Method method = FACE.get(random.nextInt(FACE.size()));
            // A text of what lies on the tape would end most runs on a land without parishes.
            if (method.getName().equals("text") && random.nextInt(9) > 0) {
                continue;
            }
            Object[] parts = parts(method);
            Due.same(told(method, parts), answer(one, method, parts), answer(other, method, parts));
        }
    }

    private static void reach(BeatenBounds bounds, int state) {
        for (int k = 0; k < 50 && state == 1; k++) {
            bounds.go(k < 49 ? 200 : 0);
        }
        for (int k = 0; k < 25 && state == 2; k++) {
            bounds.see(k + 1, k % 4, k % 5, k % 3, k % 2 == 0);
            bounds.carry(0, 1, 1 + k % 2);
        }
        for (int k = 0; k < 100 && state == 3; k++) {
            bounds.beat(0, 0, k % 4);
        }
    }

    private Object[] parts(Method method) {
        Object[] parts = new Object[method.getParameterCount()];
        boolean small = random.nextInt(3) > 0;
        for (int k = 0; k < parts.length; k++) {
            if (method.getParameterTypes()[k] == boolean.class) {
                parts[k] = random.nextBoolean();
            } else if (small) {
                parts[k] = random.nextInt(6) - 1;
            } else {
                parts[k] = random.nextInt(5) == 0 ? random.nextInt() : ODD[random.nextInt(ODD.length)];
            }
        }
        return parts;
    }

    private static String answer(BeatenBounds bounds, Method method, Object[] parts) throws IllegalAccessException {
        try {
            return String.valueOf(method.invoke(bounds, parts));
        } catch (InvocationTargetException e) {
            Class<?> thrown = e.getCause().getClass();
            boolean named = thrown == IndexOutOfBoundsException.class || thrown == NoSuchElementException.class;
            Due.is(told(method, parts) + " throws " + thrown, named && method.getName().equals("parish"), true);
            return thrown.getName();
        }
    }

    private static String told(Method method, Object[] parts) {
        StringBuilder told = new StringBuilder(method.getName());
        for (Object part : parts) {
            told.append(' ').append(part);
        }
        return told.toString();
    }
}
