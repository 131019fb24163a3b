import java.lang.reflect.Array;
import java.lang.reflect.Field;
import java.lang.reflect.InvocationTargetException;
import java.lang.reflect.Method;
import java.lang.reflect.Modifier;
import java.util.Arrays;
import java.util.Comparator;
import java.util.List;
import java.util.Random;

/**
 * LANGUAGE.md: "No call may ever throw or fail to end, for any arguments in any state: an index is looked at before it
 * is used". So whatever numbers stand in the rows that an object holds (none of it comes by calls: they are put there
 * past the face), each call answers.
 */
public final class HeldNumbersTest {
    private static final Due DUE = new Due("held numbers");
    private static final int ROUNDS = 600;
    private static final List<Method> CALLS = Arrays.stream(MayReadPencil.class.getDeclaredMethods())
            .filter(method -> Modifier.isPublic(method.getModifiers()))
            .sorted(Comparator.comparing(Method::getName)).toList();
    private static final long[] WILD = {Long.MIN_VALUE, Integer.MIN_VALUE, -1000, -9, -6, -4, -2, -1, 0, 1, 2, 3, 5,
        6, 7, 8, 9, 24, 40, 96, 1000, Integer.MAX_VALUE, Long.MAX_VALUE};
    private static final int[] ARGUMENTS = {-1, 0, 1, 2, 3, 5, 7, 12, 30};

    private final Random random;
    private final MayReadPencil x = Sight.usedOne();

    private HeldNumbersTest(int round) {
        this.random = new Random(round);
    }

    public static void main(String[] args) throws IllegalAccessException {
        for (int round = 0; round < ROUNDS && !DUE.hasWrong(); round++) {
            new HeldNumbersTest(round).play();
        }
        DUE.end();
    }

    private void play() throws IllegalAccessException {
        for (Method method : CALLS) {
            makeWild(x);
            call(method);
        }
    }

    private void call(Method method) throws IllegalAccessException {
        Object[] arguments = new Object[method.getParameterCount()];
        for (int i = 0; i < arguments.length; i++) {
            arguments[i] = ARGUMENTS[random.nextInt(ARGUMENTS.length)];
        }
        try {
            method.invoke(x, arguments);
            DUE.isSo(method.getName() + " answers", true);
        } catch (InvocationTargetException e) {
            DUE.isSo(method.getName() + " answers, and throws no " + e.getCause(), false);
        }
    }

    /** One number in four of all rows in an object and in what it holds. */
    private void makeWild(Object holder) throws IllegalAccessException {
        for (Field field : holder.getClass().getDeclaredFields()) {
            if (Modifier.isStatic(field.getModifiers()) || field.getType().isPrimitive()) {
                continue;
            }
            field.setAccessible(true);
            Object held = field.get(holder);
            if (held == null) {
                continue;
            }
            if (held.getClass().isArray()) {
                makeRowWild(held);
            } else {
                makeWild(held);
            }
        }
    }

    private void makeRowWild(Object row) throws IllegalAccessException {
        for (int i = 0; i < Array.getLength(row); i++) {
            Object held = Array.get(row, i);
            if (held != null && !row.getClass().getComponentType().isPrimitive()) {
                makeWild(held);
            } else if (held != null && random.nextInt(4) == 0) {
                long number = WILD[random.nextInt(WILD.length)];
                if (held instanceof Long) {
                    Array.setLong(row, i, number);
                } else {
                    Array.setInt(row, i, (int) number);
                }
            }
        }
    }
}
