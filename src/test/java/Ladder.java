import java.lang.reflect.InvocationTargetException;
import java.lang.reflect.Method;
import java.util.Arrays;
import java.util.function.Supplier;

/**
 * Tells a call all combinations of numbers at its bounds. Each answer is held against one that is due by the order
 * in which the document tells the refusals; a refused call must leave all that the object holds as it was.
 */
final class Ladder {
    static final int MOST = Integer.MAX_VALUE, LEAST = Integer.MIN_VALUE;

    /** The answer that is due to a call with these numbers, looked up on the city as it is ahead of the call. */
    interface Due {
        long answer(RubbleCity x, int[] told);
    }

    private Ladder() {
    }

    /** The last that is taken and the first that isn't, on both sides, and the farthest out. */
    static int[] bounds(int least, int most) {
        return new int[] {least, most, least - 1, most + 1, LEAST, MOST};
    }

    static int[] of(int... numbers) {
        return numbers;
    }

    static boolean in(int number, int least, int most) {
        return least <= number && number <= most;
    }

    static void climb(String name, Supplier<RubbleCity> cities, Due due, int[]... values) {
        Method method = find(name);
        int[] at = new int[values.length];
        RubbleCity x = cities.get();
        String before = Inside.of(x);
        do {
            int[] told = numbers(at, values);
            String call = name + Arrays.toString(told);
            long want = due.answer(x, told);
            Check.due(call, call(x, method, told), want);
            if (!Inside.of(x).equals(before)) {
                Check.due("refused, but changed: " + call, isRefusal(name, want) ? 1 : 0, 0);
                x = cities.get();
            }
        } while (goOn(at, values));
    }

    /** A call that only looks: as above, but nothing changes by it in any case; 0 stands for any answer. */
    static void look(String name, Supplier<RubbleCity> cities, Due due, int[]... values) {
        Method method = find(name);
        RubbleCity x = cities.get();
        String before = Inside.of(x);
        int[] at = new int[values.length];
        do {
            int[] told = numbers(at, values);
            long want = due.answer(x, told);
            long got = call(x, method, told);
            String call = name + Arrays.toString(told);
            Check.due(call, got, want == 0 ? got : want);
            Check.due("changed by " + call, Inside.of(x).equals(before) ? 0 : 1, 0);
        } while (goOn(at, values));
    }

    /** One call, refused. */
    static void refused(RubbleCity x, String name, long want, int... told) {
        String before = Inside.of(x);
        String call = name + Arrays.toString(told);
        Check.due(call, call(x, find(name), told), want);
        Check.due("refused, but changed: " + call, Inside.of(x).equals(before) ? 0 : 1, 0);
    }

    /** An answer of -1 from tip or force tells what was, people() keeps those who came ahead of its end. */
    private static boolean isRefusal(String name, long answer) {
        boolean wasNone = answer == -1 && (name.equals("tip") || name.equals("force"));
        boolean cameAhead = answer == -12 && name.equals("people");
        return answer < 0 && !wasNone && !cameAhead;
    }

    private static int[] numbers(int[] at, int[][] values) {
        int[] told = new int[values.length];
        for (int i = 0; i < told.length; i++) {
            told[i] = values[i][at[i]];
        }
        return told;
    }

    private static boolean goOn(int[] at, int[][] values) {
        for (int i = 0; i < at.length; i++) {
            at[i]++;
            if (at[i] < values[i].length) {
                return true;
            }
            at[i] = 0;
        }
        return false;
    }

    private static Method find(String name) {
        for (Method method : RubbleCity.class.getDeclaredMethods()) {
            if (method.getName().equals(name)) {
                return method;
            }
        }
        throw new IllegalStateException(name);
    }

    private static long call(RubbleCity x, Method method, int[] told) {
        Class<?>[] types = method.getParameterTypes();
        Object[] numbers = new Object[told.length];
        for (int i = 0; i < told.length; i++) {
            numbers[i] = types[i] == long.class ? (Object) (long) told[i] : (Object) told[i];
        }
        try {
            return ((Number) method.invoke(x, numbers)).longValue();
        } catch (IllegalAccessException | InvocationTargetException failed) {
            throw new IllegalStateException(method.getName() + Arrays.toString(told), failed);
        }
    }
}
