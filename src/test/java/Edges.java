/** What tests at the edges of the document have in common. */
final class Edges {
    /** All matrices that change places and signs of three numbers: 48. */
    static final String SIGNED = "0 1 0/1 0 0/0 0 1;0 1 0/0 0 1/1 0 0;-1 0 0/0 1 0/0 0 1;";
    /** Changes of places and signs of two numbers: 8. */
    static final String SQUARE = "0 1/1 0;1 0/0 -1;";
    /** A turn by a sixth: 6. */
    static final String SIXTH = "0 -1/1 1;";
    /** Never comes back: its powers have 1, 2, 3, .. at row 0, column 1. */
    static final String SHEAR = "1 1/0 1;";
    /** Never comes back, and its powers soon have numbers above 1000000000. */
    static final String STEEP = "99 98/1 1;";
    /** As many generators as there may be, of as many rows; there is no end of products. */
    static final String FOUR_OF_THREE = "1 1 0/0 1 0/0 0 1;1 0 0/0 1 1/0 0 1;1 0 0/0 1 0/1 0 1;1 0 0/1 1 0/0 0 1;";

    private Edges() {
    }

    /** Just below the least, just above the most, and as far off as an int goes. */
    static int[] outside(int least, int most) {
        return new int[] {Integer.MIN_VALUE, least - 1, most + 1, Integer.MAX_VALUE};
    }

    static FiniteMatrices ofSize(int d) {
        FiniteMatrices x = new FiniteMatrices();
        x.size(d);
        return x;
    }

    /** Four generators: there is no room for one more. */
    static FiniteMatrices withFour() {
        FiniteMatrices x = Check.of(2, SQUARE);
        x.unit(0, 1, 0);
        x.unit(0, 1, 99);
        return x;
    }

    /** A generator's numbers, row by row. */
    static void generator(String which, FiniteMatrices x, int gen, int... numbers) {
        int d = x.many(0);
        for (int k = 0; k < d * d; k++) {
            Says.due(which + " at " + k / d + ", " + k % d, x.at(gen, k / d, k % d), 1000 + numbers[k]);
        }
    }

    /** An element's numbers, row by row. */
    static void element(String which, FiniteMatrices x, int e, long... numbers) {
        int d = x.many(0);
        for (int k = 0; k < d * d; k++) {
            Says.due(which + " at " + k / d + ", " + k % d, x.element(e, k / d, k % d), numbers[k]);
        }
    }

    /** A row's numbers, from its first place on, and that it has no more. */
    static void row(String which, FiniteMatrices x, int sheet, int sort, int... numbers) {
        for (int k = 0; k < numbers.length; k++) {
            Says.due(which + ", place " + k, x.item(sheet, sort, k), numbers[k]);
        }
        Says.due(which + ", no more", x.item(sheet, sort, numbers.length), -12);
    }
}
