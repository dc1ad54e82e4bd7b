/** Part 1 of the document's terms, sentence by sentence: matrices, THE LIST, ORDER, CHARACTER. */
public final class MatricesEdgesTest {
    private static final int BAD = FiniteMatrices.BAD;
    private static final int FULL = FiniteMatrices.FULL;
    private static final int NONE = FiniteMatrices.NONE;
    private static final int OVER = FiniteMatrices.OVER;
    private static final String PART = "Terms 1";

    private static void due(String call, long got, long want) {
        Says.due(call, got, want);
    }

    private static void rowsAndColumns() {
        FiniteMatrices x = new FiniteMatrices();
        due("2 at first", x.many(0), 2);
        due("0 is none", x.size(0), BAD);
        due("4 is none", x.size(4), BAD);
        for (int d = 1; d <= 3; d++) {
            x.size(d);
            due("numbered from 0", x.element(0, 0, 0), 1);
            due("to d less 1", x.element(0, d - 1, d - 1), 1);
            due("no row d", x.element(0, d, 0), Check.LONG_BAD);
            due("no column d", x.element(0, 0, d), Check.LONG_BAD);
            due("no row -1", x.element(0, -1, 0), Check.LONG_BAD);
        }
    }

    private static void fourAtMost() {
        FiniteMatrices x = new FiniteMatrices();
        Check.fill(x, 0, 0, 1, 0, 0, 1);
        due("0 by unit", x.unit(0, 1, 1), 0);
        due("1 by made", x.made(3, 0, 0), 1);
        due("2 by take", x.take(0, 0), 2);
        due("3 by lot", x.lot(4), 1);
        due("four", x.many(1), 4);
        due("no more by unit", x.unit(0, 1, 1), FULL);
        due("no more by made", x.made(3, 0, 0), FULL);
        due("no more by take", x.take(0, 0), FULL);
        due("no more by lot", x.lot(1), 0);
        due("no fifth by text", Check.textOf(x, "1 0/0 1;1 0/0 1;1 0/0 1;1 0/0 1;1 0/0 1;"), -132);
        due("still four", x.many(1), 4);
        due("the first is the first", x.at(0, 0, 1), 1001);
    }

    private static void numbersOfGenerators() {
        FiniteMatrices x = new FiniteMatrices();
        Check.fill(x, 0, 1, 99, 98, 98, 97, -99, -98, 98, 97, 100, 99, 1, 1, -100, 99, -1, 1);
        due("99, determinant -1", x.take(0, 0), 0);
        due("-99, determinant 1", x.take(0, 4), 1);
        due("100, determinant 1", x.take(0, 8), BAD);
        due("-100, determinant -1", x.take(0, 12), BAD);
        Check.fill(x, 1, 0, 99, 98, 98, 96, 2, 1, 1, 0, 1, 2, 2, 4);
        due("another determinant", x.take(1, 0), BAD);
        due("determinant -1 once more", x.take(1, 4), 2);
        due("determinant 0", x.take(1, 8), BAD);
        due("by text, determinant 0", Check.textOf(x, "1 2/2 4;"), -107);
        due("by text, determinant 2", Check.textOf(x, "2 0/0 1;"), -107);
        due("by text, determinant -2", Check.textOf(x, "2 0/0-1;"), -107);
        due("by a product", x.made(0, 0, 1), OVER);
    }

    private static void rowsTimesAColumn() {
        FiniteMatrices x = Check.of(2, "1 2/3 7;");
        due("two", x.orbit(10, 100, 1000) > 1 ? 1 : 0, 1);
        due("row 0 times it", x.point(1, 0), 210);
        due("row 1 times it", x.point(1, 1), 730);
        due("no third number", x.point(1, 2), Check.LONG_BAD);
        FiniteMatrices three = Check.of(3, "1 2 3/0 1 4/0 0 1;");
        three.orbit(1, 10, 100);
        due("three rows, row 0", three.point(1, 0), 321);
        due("three rows, row 1", three.point(1, 1), 410);
        due("three rows, row 2", three.point(1, 2), 100);
        FiniteMatrices one = Check.of(1, "-1;");
        one.orbit(1000, 7, 7);
        due("one row", one.point(1, 0), -1000);
        due("one row, no second number", one.point(1, 1), Check.LONG_BAD);
    }

    // ---- the list

    private static void firstOfTheList() {
        Edges.element("d 1", Check.of(1, "-1;"), 0, 1);
        Edges.element("d 2", Check.of(2, Edges.STEEP), 0, 1, 0, 0, 1);
        Edges.element("d 3", Check.of(3, Edges.SIGNED), 0, 1, 0, 0, 0, 1, 0, 0, 0, 1);
        Edges.element("no generators", new FiniteMatrices(), 0, 1, 0, 0, 1);
        due("it stands there once", Check.of(2, "1 0/0 1;1 0/0 1;").listed(), 1);
    }

    private static void theOneTimesTheGenerator() {
        FiniteMatrices x = Check.of(2, "1 1/0 1;-1 0/0 1;");
        long[][] due = {{1, 0, 0, 1}, {1, 1, 0, 1}, {-1, 0, 0, 1}, {1, 2, 0, 1}, {-1, 1, 0, 1}, {-1, -1, 0, 1}, {1, 3, 0, 1}};
        for (int e = 0; e < due.length; e++) {
            Edges.element("element " + e, x, e, due[e]);
        }
    }

    private static void notInItYet() {
        due("the same twice", Check.of(1, "-1;-1;").listed(), 2);
        FiniteMatrices x = Check.of(2, "0 1/1 0;0 1/1 0;1 0/0 -1;");
        due("eight, not more", x.listed(), 8);
        due("of two alike the first leads", x.about(1, 1), 0);
        due("the third leads to the next", x.about(2, 1), 2);
        for (int e = 0; e < 8; e++) {
            for (int f = 0; f < e; f++) {
                boolean alike = true;
                for (int k = 0; k < 4; k++) {
                    alike &= x.element(e, k / 2, k % 2) == x.element(f, k / 2, k % 2);
                }
                Says.holds(e + " is not " + f, !alike);
            }
        }
    }

    private static int childOf(FiniteMatrices x, int e, int gen) {
        int many = x.listed();
        for (int k = 1; k < many; k++) {
            if (x.about(k, 0) == e && x.about(k, 1) == gen) {
                return k;
            }
        }
        return NONE;
    }

    private static void numbersOfTheList() {
        FiniteMatrices x = Check.of(2, "49 -50/-50 51;40 -1/1 0;");
        int e = childOf(x, x.found(1121), 0);
        Edges.element("1000000000 is in it", x, e, 960792040, -980200001, -980199999, 1000000000);
        x = Check.of(2, "49 -50/-50 51;-40 1/-1 0;");
        e = childOf(x, x.found(1121), 0);
        Edges.element("-1000000000 is in it", x, e, -960792040, 980200001, 980199999, -1000000000);
        x = Check.of(2, "-35 -62/22 39;50 -49/-49 48;");
        due("1000000001 is not", childOf(x, x.found(2212), 1), NONE);
        due("though one that came later is", childOf(x, x.found(2221), 0) > 0 ? 1 : 0, 1);
        x = Check.of(2, "35 62/-22 -39;50 -49/-49 48;");
        due("-1000000001 is not", childOf(x, x.found(2212), 1), NONE);
    }

    private static void endOfTheList() {
        due("no more to come", Check.of(3, Edges.SIGNED).listed(), 48);
        FiniteMatrices x = Check.of(2, Edges.SHEAR);
        due("with 100", x.listed(), 100);
        Edges.element("the hundredth", x, 99, 1, 99, 0, 1);
        due("no other behind it", x.element(100, 0, 0), Check.LONG_BAD);
        FiniteMatrices two = Check.of(2, "1 1/0 1;-1 0/0 1;");
        due("with 100, of two", two.listed(), 100);
        due("with 100, of four", Check.of(2, "1 1/0 1;1 0/1 1;1 -1/0 1;1 0/-1 1;").listed(), 100);
        due("with 100, of three rows", Check.of(3, "1 1 0/0 1 0/0 0 1;0 1 0/0 0 1/1 0 0;").listed(), 100);
    }

    private static void wholeList() {
        due("no generators", new FiniteMatrices().whole(), 1);
        due("48", Check.of(3, Edges.SIGNED).whole(), 1);
        due("12", Check.of(2, "0 -1/1 1;0 1/1 0;").whole(), 1);
        due("with 100", Check.of(2, Edges.SHEAR).whole(), 0);
        due("none would come, were it not for great numbers", Check.of(2, Edges.STEEP).whole(), 0);
        due("only the last generator leads out", Check.of(2, "1 0/0 1;99 98/1 1;").whole(), 0);
        due("only the first generator leads out", Check.of(2, "99 98/1 1;1 0/0 1;").whole(), 0);
    }

    private static void howAnElementCame() {
        FiniteMatrices x = Check.of(3, Edges.SIGNED);
        int[] seen = new int[48];
        for (int e = 1; e < 48; e++) {
            int from = x.about(e, 0);
            int by = x.about(e, 1);
            Says.holds(e + " came from one ahead of it", from >= 0 && from < e);
            Says.holds(e + " came by one of three", by >= 0 && by < 3);
            if (from >= 0 && from < e) {
                seen[e] = seen[from] + 1;
                due("element " + e + " is long", x.about(e, 2), seen[e]);
            }
        }
        FiniteMatrices shear = Check.of(2, Edges.SHEAR);
        due("99 steps", shear.about(99, 2), 99);
        due("from 98", shear.about(99, 0), 98);
        due("the first is not long", shear.about(0, 2), 0);
    }

    // ---- order

    private static void leastPower() {
        FiniteMatrices one = Check.of(1, "1;-1;");
        due("1", one.of(0, 2), 1);
        due("2", one.of(1, 2), 2);
        FiniteMatrices two = Check.of(2, "0 -1/1 -1;0 -1/1 0;0 -1/1 1;-1 0/0 -1;");
        due("3", two.of(0, 2), 3);
        due("4", two.of(1, 2), 4);
        due("6", two.of(2, 2), 6);
        due("2 of two rows, not 4 or 6", two.of(3, 2), 2);
        FiniteMatrices three = Check.of(3, "0 1 0/0 0 1/1 0 0;0 -1 0/1 0 0/0 0 -1;0 -1 0/0 0 -1/-1 0 0;1 0 0/0 1 0/0 0 1;");
        due("3 of three rows", three.of(0, 2), 3);
        due("4 of three rows", three.of(1, 2), 4);
        due("6 of three rows", three.of(2, 2), 6);
        due("1 of three rows", three.of(3, 2), 1);
    }

    /**
     * The second generator, C, has order 3, and the first, D, has order 2; so D C D C D C C D has
     * order 3, too. But in its second power there is a number above 1000000000.
     */
    private static void lesserPowerOutside() {
        FiniteMatrices x = Check.of(3, "16 -20 -25/-21 29 35/27 -36 -44;0 -4 1/1 0 0/4 1 0;");
        due("D", x.of(0, 2), 2);
        due("C", x.of(1, 2), 3);
        int e = x.found(12121221);
        due("it is in the list", e, 44);
        due("its second power is outside", x.found(121221221), OVER);
        due("so it has none", x.about(e, 3), NONE);
        int other = x.found(12212121);
        due("another one of that kind", other, 47);
        due("the second power of which is not", x.found(122122121), 65);
        due("so it has one", x.about(other, 3), 3);
    }

    /** Of such kind, too: the greatest number of the second power is just within, or just outside. */
    private static void lesserPowerAtTheEdge() {
        String[] within = {"-1 -79 92/0 1 0/0 0 1;10 37 80/-3 -11 -25/0 0 1;", "-1 -79 -92/0 1 0/0 0 1;10 37 -80/-3 -11 25/0 0 1;"};
        for (String text : within) {
            FiniteMatrices x = Check.of(3, text);
            int e = x.found(12121221);
            due("it is in the list", e >= 0 ? 1 : 0, 1);
            due("1000000000 or less 1000000000 in its second power: not outside", x.found(121221221) != OVER ? 1 : 0, 1);
            due("so it has one", x.about(e, 3), 3);
        }
        String[] outside = {"-1 -38 -44/0 1 0/0 0 1;4 -3 -57/7 -5 -34/0 0 1;", "-1 -38 44/0 1 0/0 0 1;4 -3 57/7 -5 34/0 0 1;"};
        for (String text : outside) {
            FiniteMatrices x = Check.of(3, text);
            int e = x.found(12212121);
            due("it is in the list", e >= 0 ? 1 : 0, 1);
            due("1000000001 or less 1000000001 in its second power: outside", x.found(122122121), OVER);
            due("so it has none", x.about(e, 3), NONE);
        }
    }

    private static void looseOnes() {
        due("a shear", Check.of(2, Edges.SHEAR).of(0, 2), NONE);
        due("a steep one", Check.of(2, Edges.STEEP).of(0, 2), NONE);
        due("three rows", Check.of(3, "0 0 1/1 0 0/0 1 3;").of(0, 2), NONE);
        FiniteMatrices x = Check.of(2, "1 0/0 -1;1 1/0 -1;");
        due("two that are not", x.of(0, 2) + x.of(1, 2), 4);
        due("and their product, which is", x.about(3, 3), NONE);
        due("the first such element", x.witness(), 3);
    }

    // ---- character

    private static void characters() {
        FiniteMatrices one = Check.of(1, "-1;");
        due("x + 1: 0", one.character(0, 0), 1000001);
        due("x + 1: 1", one.character(0, 1), 1000001);
        FiniteMatrices two = Check.of(2, "3 1/2 1;");
        long[] of2 = {1, -4, 1};
        for (int k = 0; k < 3; k++) {
            due("x x - 4 x + 1: " + k, two.character(0, k), 1000000 + of2[k]);
        }
        FiniteMatrices three = Check.of(3, "17 92 -97/-91 -11 -91/91 97 -18;");
        long[] of3 = {1, 25731, 12, 1};
        for (int k = 0; k < 4; k++) {
            due("three rows: " + k, three.character(0, k), 1000000 + of3[k]);
        }
    }

    private static void factorsOfCharacters() {
        // Each by a matrix that has nothing but this factor.
        String[] alone = {"1 1/0 1;", "-1 1/0 -1;", "0 -1/1 -1;", "0 -1/1 0;", "0 -1/1 1;"};
        int[] kinds = {1, 2, 3, 4, 6};
        for (int k = 0; k < 5; k++) {
            FiniteMatrices x = Check.of(2, alone[k]);
            for (int n = 0; n < 5; n++) {
                due(alone[k] + " factor " + kinds[n], x.factor(0, kinds[n]), n != k ? 0 : kinds[n] < 3 ? 2 : 1);
            }
        }
        due("as often as can be", Check.of(3, "1 1 0/0 1 1/0 0 1;").factor(0, 1), 3);
        due("as often as can be, below 0", Check.of(3, "-1 1 0/0 -1 1/0 0 -1;").factor(0, 2), 3);
        due("not at all", Check.of(3, "0 0 1/1 0 0/0 1 3;").factor(0, 1), 0);
        due("once of three rows", Check.of(3, "0 -1 7/1 0 9/0 0 -1;").factor(0, 4), 1);
    }

    private static void matricesAndTheList() {
        Says.test(PART, "MATRICES have d rows and columns (d is 1 to 3; 2 at first), numbered from 0; what stands in them are whole numbers",
                MatricesEdgesTest::rowsAndColumns);
        Says.test(PART, "GENERATORS, 4 at most, numbered as they come", MatricesEdgesTest::fourAtMost);
        Says.test(PART, "MATRICES of numbers -99 to 99, the determinant of which is 1 or -1",
                MatricesEdgesTest::numbersOfGenerators);
        Says.test(PART, "A POINT is d whole numbers; a MATRIX times it: as rows times a column",
                MatricesEdgesTest::rowsTimesAColumn);
        Says.test(PART, "THE LIST: first the MATRIX that changes nothing (1 where row and column are alike, else 0)",
                MatricesEdgesTest::firstOfTheList);
        Says.test(PART, "Then, for each that is in it, in order, and for each GENERATOR, in order: the one times the GENERATOR "
                + "(the GENERATOR on the right)", MatricesEdgesTest::theOneTimesTheGenerator);
        Says.test(PART, "if that is not in it yet", MatricesEdgesTest::notInItYet);
        Says.test(PART, "and all its numbers are -1000000000 to 1000000000", MatricesEdgesTest::numbersOfTheList);
        Says.test(PART, "it ends when there is no more to come, or with 100", MatricesEdgesTest::endOfTheList);
        Says.test(PART, "It is WHOLE, if each one in it times each GENERATOR is in it", MatricesEdgesTest::wholeList);
        Says.test(PART, "An ELEMENT is told by its place in it; it CAME from another one, by a GENERATOR; how LONG it is: "
                + "how many steps from the first one", MatricesEdgesTest::howAnElementCame);
    }

    private static void orderAndCharacter() {
        Says.test(PART, "ORDER of a MATRIX: the least k (1 to 12) for which its k-th power is the first of THE LIST",
                MatricesEdgesTest::leastPower);
        Says.test(PART, "(no number of a lesser power being outside -1000000000 to 1000000000)",
                MatricesEdgesTest::lesserPowerOutside);
        Says.test(PART, "no number of a lesser power being outside -1000000000 to 1000000000",
                MatricesEdgesTest::lesserPowerAtTheEdge);
        Says.test(PART, "LOOSE: it has none", MatricesEdgesTest::looseOnes);
        Says.test(PART, "CHARACTER of a MATRIX: the determinant of x where row and column are alike, else 0, less the MATRIX, "
                + "as a polynomial of x", MatricesEdgesTest::characters);
        Says.test(PART, "FACTORS of it: 1: x - 1; 2: x + 1; 3: x x + x + 1; 4: x x + 1; 6: x x - x + 1: "
                + "how often each can be taken out of it", MatricesEdgesTest::factorsOfCharacters);
    }

    public static void main(String[] args) {
        matricesAndTheList();
        orderAndCharacter();
        Says.whole(PART);
        Says.finish();
    }
}
