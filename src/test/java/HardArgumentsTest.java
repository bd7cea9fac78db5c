import java.lang.reflect.InvocationTargetException;
import java.lang.reflect.Method;
import java.lang.reflect.Modifier;

/** LANGUAGE.md, rule 7: no call throws or fails to end, whatever it is asked; what it refuses, it counts once. */
final class HardArgumentsTest {
    private static final Due DUE = new Due("HardArgumentsTest");
    private static final long[] HARD = {Long.MIN_VALUE, Integer.MIN_VALUE, -2, -1, 0, 1, 9, 24, 159, 160, Integer.MAX_VALUE, Long.MAX_VALUE};
    private static final long[] HARD_OF_MANY = {Integer.MIN_VALUE, -1, 0, 4, 160, Integer.MAX_VALUE};
    // An object answers 512 calls: a scene is made by some 60, and each call is followed by seven of status().
    private static final int CALLS_OF_ONE = 50;

    private ThirdEvening x;
    private int calls = CALLS_OF_ONE;
    private final int[] counted = new int[8];

    public static void main(String[] args) throws IllegalAccessException {
        HardArgumentsTest test = new HardArgumentsTest();
        for (Method m : ThirdEvening.class.getDeclaredMethods()) {
            if (Modifier.isPublic(m.getModifiers())) {
                test.allOf(m);
            }
        }
        DUE.end();
    }

    private void allOf(Method m) throws IllegalAccessException {
        Class<?>[] types = m.getParameterTypes();
        long[] hard = types.length > 3 ? HARD_OF_MANY : HARD;
        long combinations = Math.round(Math.pow(hard.length, types.length));
        for (long one = 0; one < combinations; one++) {
            Object[] args = new Object[types.length];
            long left = one;
            for (int i = 0; i < args.length; i++) {
                args[i] = argument(types[i], hard[(int) (left % hard.length)]);
                left /= hard.length;
            }
            call(m, args);
        }
    }

    private static Object argument(Class<?> type, long v) {
        return type == long.class ? (Object) v : type == boolean.class ? (Object) (v % 2 == 0) : (Object) (int) v;
    }

    private void call(Method m, Object[] args) throws IllegalAccessException {
        if (calls >= CALLS_OF_ONE) {
            x = Given.scene(true);
            calls = 0;
            count();
        }
        calls++;
        try {
            long answer = ((Number) m.invoke(x, args)).longValue();
            int no = count();
            if (no != 0) {
                boolean told = answer == -no || answer == -10 - no || answer == -1000 - no;
                DUE.is(m.getName() + " " + java.util.Arrays.toString(args) + ", counted as " + -no, told ? -no : answer, -no);
            } else {
                DUE.is(m.getName(), 0, 0);
            }
        } catch (InvocationTargetException e) {
            DUE.is(m.getName() + " " + java.util.Arrays.toString(args) + " threw " + e.getCause(), 1, 0);
            calls = CALLS_OF_ONE;
        }
    }

    // Which of the REFUSALS is one more than it was; 0, if none is.
    private int count() {
        int more = 0;
        int sum = 0;
        for (int no = 1; no <= 7; no++) {
            int is = x.status(10 + no);
            if (is != counted[no]) {
                more = no;
                sum += is - counted[no];
            }
            counted[no] = is;
        }
        if (calls > 0) {
            DUE.is("REFUSALS more", sum == 0 || sum == 1 ? 0 : sum, 0);
        }
        return more;
    }
}
