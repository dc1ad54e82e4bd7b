import java.lang.reflect.Field;

/**
 * Sets what no call can reach: finite groups of whole matrices of three rows have at most 48
 * elements, so some sentences of the document can only be tried on a state that is set by hand.
 */
final class Inside {
    private Inside() {
    }

    private static Field field(Object of, String name) throws ReflectiveOperationException {
        Field field = of.getClass().getDeclaredField(name);
        field.setAccessible(true);
        return field;
    }

    static Object get(Object of, String name) {
        try {
            return field(of, name).get(of);
        } catch (ReflectiveOperationException e) {
            throw new IllegalStateException(e);
        }
    }

    private static void set(Object of, String name, Object value) {
        try {
            field(of, name).set(of, value);
        } catch (ReflectiveOperationException e) {
            throw new IllegalStateException(e);
        }
    }

    /** An object with a whole list of matrices of one row. */
    static FiniteMatrices withList(long... numbers) {
        FiniteMatrices x = new FiniteMatrices();
        x.size(1);
        x.listed();
        Object list = get(x, "list");
        System.arraycopy(numbers, 0, (long[]) get(list, "cells"), 0, numbers.length);
        set(list, "count", numbers.length);
        set(list, "closed", true);
        return x;
    }

    /** An object with a closed orbit, in which each generator puts each point in the place of one. */
    static FiniteMatrices withPlaces(int[]... generators) {
        FiniteMatrices x = new FiniteMatrices();
        for (int k = 0; k < generators.length; k++) {
            x.unit(0, 1, 0);
        }
        x.orbit(0, 0, 0);
        Object trail = get(x, "trail");
        int[] leads = (int[]) get(trail, "leads");
        int points = generators[0].length;
        for (int gen = 0; gen < generators.length; gen++) {
            for (int k = 0; k < points; k++) {
                leads[k * 4 + gen] = generators[gen][k];
            }
        }
        set(trail, "count", points);
        return x;
    }
}
