import java.lang.reflect.InvocationTargetException;
import java.lang.reflect.Method;
import java.lang.reflect.Modifier;
import java.util.List;
import java.util.function.Supplier;

/** No call throws, whatever its arguments, in any of some states (rule 7 of LANGUAGE.md). */
public final class AnyArgumentsTest {
    private static final int CALLS_OF_ONE_OBJECT = 100;
    private static final int[] VALUES = {Integer.MIN_VALUE, Integer.MIN_VALUE + 1, -1, 0, 1, 3, 5, 6, 7, 8, 31, 32, 59,
        60, 61, 63, 64, 2_000_000_000, Integer.MAX_VALUE - 1, Integer.MAX_VALUE};
    private static final int[] FEW = {Integer.MIN_VALUE, -1, 0, 1, 6, 60, Integer.MAX_VALUE};
    private static final String GREATEST = "brigade seconds 60 buckets 8 size 30 back 20 odds 10;"
            + "hand pace 6 spills 9;".repeat(6) + "apart 0 5;".repeat(5) + "fire heat 999 grows 9;";
    private static final Check CHECK = new Check();

    public static void main(String[] args) throws ReflectiveOperationException {
        List<Supplier<HandLine>> states = List.of(HandLine::new, AnyArgumentsTest::least, AnyArgumentsTest::nobody,
                AnyArgumentsTest::greatest);
        for (Method method : HandLine.class.getDeclaredMethods()) {
            if (Modifier.isPublic(method.getModifiers())) {
                for (Supplier<HandLine> state : states) {
                    callWithAll(method, state);
                }
            }
        }
        CHECK.finish();
    }

    private static HandLine told(String text) {
        HandLine x = new HandLine();
        Check.feed(x, text);
        x.brigade();
        return x;
    }

    private static HandLine least() {
        return told("brigade seconds 1 buckets 1 size 1 back 0 odds 0;hand pace 1 spills 0;");
    }

    private static HandLine nobody() {
        HandLine x = told("brigade seconds 60 buckets 8 size 1 back 0 odds 5;");
        x.row(0, 3, 2);
        return x;
    }

    /** All that there can be: 30 acts, a full TAPE, four rows, three images. */
    private static HandLine greatest() {
        HandLine x = told(GREATEST);
        for (int i = 0; i < 30; i++) {
            x.rest(i % 6, 59 - i, 9);
        }
        Check.feed(x, GREATEST + " ".repeat(500 - GREATEST.length()));
        for (int slot = 0; slot < 4; slot++) {
            x.row(slot, slot, slot == 0 ? 60 : 2);
        }
        for (int k = 0; k < 3; k++) {
            x.image(k);
        }
        return x;
    }

    private static void callWithAll(Method method, Supplier<HandLine> state) throws ReflectiveOperationException {
        int parameters = method.getParameterCount();
        int[] values = parameters > 2 ? FEW : VALUES;
        long cases = 1;
        for (int i = 0; i < parameters; i++) {
            cases *= values.length;
        }
        HandLine x = state.get();
        for (long k = 0; k < cases; k++) {
            if (k % CALLS_OF_ONE_OBJECT == 0) {
                x = state.get();
            }
            Object[] arguments = new Object[parameters];
            long rest = k;
            for (int i = 0; i < parameters; i++) {
                int value = values[(int) (rest % values.length)];
                rest /= values.length;
                arguments[i] = method.getParameterTypes()[i] == long.class ? (Object) (long) value : (Object) value;
            }
            call(method, x, arguments);
        }
    }

    private static void call(Method method, HandLine x, Object[] arguments) throws IllegalAccessException {
        try {
            method.invoke(x, arguments);
        } catch (InvocationTargetException e) {
            CHECK.due(method.getName() + java.util.Arrays.toString(arguments) + " threw " + e.getCause(), 1, 0);
        }
    }
}
