/** Counts the answers that are not as due, and tells each of them. */
final class Check {
    static final long FAR = 4000000000000000000L;
    static final long LONG_BAD = -4000000000000000001L;
    static final long LONG_NONE = -4000000000000000003L;

    private static int wrong = 0;

    private Check() {
    }

    static void due(String call, long got, long want) {
        if (got != want) {
            wrong++;
            System.out.println(call + " answered " + got + ", due is " + want);
        }
    }

    static void holds(String what, boolean so) {
        if (!so) {
            wrong++;
            System.out.println("does not hold: " + what);
        }
    }

    /** Feeds a text, eight bytes a call. */
    static void feedAll(FiniteMatrices x, String text) {
        for (int k = 0; k < text.length(); k += 8) {
            int n = Math.min(8, text.length() - k);
            x.feed(eight(text, k, n), n);
        }
    }

    static long eight(String text, int from, int n) {
        long eight = 0;
        for (int k = 0; k < n; k++) {
            eight |= (long) (text.charAt(from + k) & 255) << 8 * k;
        }
        return eight;
    }

    static int textOf(FiniteMatrices x, String text) {
        feedAll(x, text);
        return x.text();
    }

    /** A new object of a size with the generators that a text tells. */
    static FiniteMatrices of(int d, String text) {
        FiniteMatrices x = new FiniteMatrices();
        x.size(d);
        int made = textOf(x, text);
        holds("understood: " + text, made >= 0);
        return x;
    }

    /** A sheet of a sort with the numbers given. */
    static void fill(FiniteMatrices x, int sheet, int sort, long... numbers) {
        x.sheet(sheet, sort, numbers.length);
        for (int k = 0; k < numbers.length; k++) {
            x.put(sheet, k, numbers[k]);
        }
    }

    static void finish() {
        System.out.println(wrong == 0 ? "all answers are as due" : wrong + " answers are not as due");
        if (wrong != 0) {
            System.exit(1);
        }
    }
}
