import java.lang.reflect.InvocationTargetException;
import java.lang.reflect.Method;
import java.lang.reflect.Modifier;

/** No call throws, whatever it is given: every call with all of these numbers, in empty, small and full valleys. */
public final class ExtremesTest {
    private static final Due DUE = new Due("ExtremesTest");
    private static final int CALLS_OF_AN_OBJECT = 200;
    private static final int[] NUMBERS = {Integer.MIN_VALUE, Integer.MIN_VALUE + 1, -1000000001, -65536, -3, -2, -1, 0, 1,
        2, 3, 4, 5, 6, 7, 8, 9, 10, 11, 12, 14, 15, 19, 20, 31, 32, 33, 35, 36, 37, 60, 61, 63, 64, 99, 100, 101, 127,
        128, 255, 256, 999, 1000, 4095, 4096, 65536, 1 << 30, Integer.MAX_VALUE - 1, Integer.MAX_VALUE};
    private static final String[] TEXTS = {
        "",
        "g1 1 0;",
        "g6 1 1;l0 0 11 9;h0 0 0;",
        "g6 6 1;l0 0 0 9;l5 5 1 9;l0 5 2 9;l5 0 3 9;l2 2 4 1;l3 3 5 1;l5 2 6 5;h0 0 0;h5 5 1;h5 0 2;h3 2 0;n0;"};

    public static void main(String[] args) throws IllegalAccessException {
        for (String text : TEXTS) {
            for (Method call : GoldByEar.class.getDeclaredMethods()) {
                if (Modifier.isPublic(call.getModifiers())) {
                    withAllNumbers(text, call);
                }
            }
        }
        DUE.end();
    }

    private static void withAllNumbers(String text, Method call) throws IllegalAccessException {
        int parameters = call.getParameterCount();
        int rows = 1;
        for (int k = 0; k < parameters; k++) {
            rows *= NUMBERS.length;
        }
        GoldByEar x = Ground.of(text);
        int thrown = 0;
        for (int row = 0; row < rows; row++) {
            if (row % CALLS_OF_AN_OBJECT == 0) {
                x = Ground.of(text);
            }
            thrown += isThrownBy(x, call, row) ? 1 : 0;
        }
        DUE.is("how often " + call.getName() + " throws in '" + text + "'", thrown, 0);
    }

    private static boolean isThrownBy(GoldByEar x, Method call, int row) throws IllegalAccessException {
        Object[] values = new Object[call.getParameterCount()];
        int rest = row;
        for (int k = 0; k < values.length; k++) {
            int number = NUMBERS[rest % NUMBERS.length];
            boolean isTruth = call.getParameterTypes()[k] == boolean.class;
            values[k] = isTruth ? (Object) Boolean.valueOf(number % 2 == 0) : Integer.valueOf(number);
            rest /= NUMBERS.length;
        }
        try {
            call.invoke(x, values);
            return false;
        } catch (InvocationTargetException thrown) {
            return true;
        }
    }
}
