/** Promises 1 to 11, sentence by sentence, at their edges. */
public final class GeneratorsEdgesTest {
    private static final int BAD = FiniteMatrices.BAD;
    private static final int FULL = FiniteMatrices.FULL;
    private static final int NONE = FiniteMatrices.NONE;
    private static final int OVER = FiniteMatrices.OVER;

    private static void due(String call, long got, long want) {
        Says.due(call, got, want);
    }

    private static void newObject() {
        FiniteMatrices x = new FiniteMatrices();
        due("d", x.many(0), 2);
        due("generators", x.many(1), 0);
        due("no first one", x.at(0, 0, 0), BAD);
        due("no third row", x.unit(2, 2, 1), BAD);
        due("a second row", x.unit(1, 1, 1), 0);
    }

    // ---- 2: size

    private static void sizeBecomes() {
        FiniteMatrices x = new FiniteMatrices();
        for (int d : new int[] {1, 3, 2}) {
            x.size(d);
            due("d", x.many(0), d);
            due("the last row and column", x.unit(d - 1, d - 1, -1), 0);
            due("no row beyond", x.unit(d, d - 1, 1), BAD);
            due("no column beyond", x.unit(d - 1, d, 1), BAD);
            due("no number beyond", x.at(0, d, 0), BAD);
        }
    }

    private static void sizeOfAnother() {
        FiniteMatrices x = Check.of(2, Edges.SQUARE);
        x.size(2);
        due("the same d: generators stay", x.many(1), 2);
        Edges.generator("the second", x, 1, 1, 0, 0, -1);
        x.size(3);
        due("another d: none", x.many(1), 0);
        due("another d: no first one", x.at(0, 0, 0), BAD);
        due("another d: the list", x.listed(), 1);
        x.size(2);
        due("back again: none", x.many(1), 0);
        due("the next is the first", x.unit(0, 1, 1), 0);
        x.size(1);
        due("a lesser d: none", x.many(1), 0);
    }

    private static void sizeTellsWhatItWas() {
        FiniteMatrices x = new FiniteMatrices();
        due("size(3)", x.size(3), 2);
        due("size(1)", x.size(1), 3);
        due("size(1), the same", x.size(1), 1);
        due("size(2)", x.size(2), 1);
    }

    private static void sizeBad() {
        for (int v : Edges.outside(1, 3)) {
            FiniteMatrices x = Check.of(2, Edges.SQUARE);
            due("size(" + v + ")", x.size(v), BAD);
            due("d stays", x.many(0), 2);
            due("generators stay", x.many(1), 2);
        }
        due("size(-2)", new FiniteMatrices().size(-2), BAD);
    }

    // ---- 3: unit

    private static void unitIs() {
        for (int d = 1; d <= 3; d++) {
            for (int place = 0; place < d * d; place++) {
                FiniteMatrices x = Edges.ofSize(d);
                int[] numbers = new int[d * d];
                for (int i = 0; i < d; i++) {
                    numbers[i * d + i] = 1;
                }
                numbers[place] = place / d == place % d ? -1 : -7;
                due("unit", x.unit(place / d, place % d, numbers[place]), 0);
                Edges.generator("d " + d + ", place " + place, x, 0, numbers);
            }
        }
    }

    private static void unitOfNumbers() {
        int[] alike = {Integer.MIN_VALUE, -99, -2, 0, 2, 99, Integer.MAX_VALUE};
        FiniteMatrices x = new FiniteMatrices();
        for (int v : alike) {
            due("unit(1, 1, " + v + ")", x.unit(1, 1, v), BAD);
        }
        for (int v : Edges.outside(-99, 99)) {
            due("unit(1, 0, " + v + ")", x.unit(1, 0, v), BAD);
        }
        due("none came", x.many(1), 0);
        due("unit(1, 1, 1)", x.unit(1, 1, 1), 0);
        due("unit(1, 1, -1)", x.unit(1, 1, -1), 1);
        due("unit(1, 0, 99)", x.unit(1, 0, 99), 2);
        due("unit(1, 0, -99)", x.unit(1, 0, -99), 3);
        x.drop();
        due("unit(0, 1, 0)", x.unit(0, 1, 0), 3);
        Edges.generator("1", x, 0, 1, 0, 0, 1);
        Edges.generator("-1", x, 1, 1, 0, 0, -1);
        Edges.generator("99", x, 2, 1, 0, 99, 1);
        Edges.generator("0", x, 3, 1, 0, 0, 1);
    }

    private static void unitNumber() {
        FiniteMatrices x = new FiniteMatrices();
        for (int k = 0; k < 4; k++) {
            due("number " + k, x.unit(0, 1, k), k);
        }
        x.drop();
        x.drop();
        due("2 once more", x.unit(0, 1, 9), 2);
    }

    private static void unitBad() {
        for (int d = 1; d <= 3; d++) {
            FiniteMatrices x = Edges.ofSize(d);
            for (int off : Edges.outside(0, d - 1)) {
                due("row " + off + " of " + d, x.unit(off, 0, 1), BAD);
                due("column " + off + " of " + d, x.unit(0, off, 1), BAD);
                due("both " + off + " of " + d, x.unit(off, off, 1), BAD);
            }
            due("none came", x.many(1), 0);
        }
    }

    private static void unitFull() {
        FiniteMatrices x = Edges.withFour();
        due("a fifth", x.unit(0, 1, 1), FULL);
        due("a fifth where alike", x.unit(0, 0, 1), FULL);
        due("four", x.many(1), 4);
        x.drop();
        due("room again", x.unit(0, 1, 1), 3);
    }

    // ---- 4: made

    private static void madeIs() {
        FiniteMatrices x = Check.of(2, "1 2/0 1;3 1/2 1;");
        x.made(0, 0, 1);
        Edges.generator("a times b", x, 2, 7, 3, 2, 1);
        x.made(0, 1, 0);
        Edges.generator("b times a", x, 3, 3, 7, 2, 5);
        x.drop();
        x.made(0, 1, 1);
        Edges.generator("a times itself", x, 3, 11, 4, 8, 3);
        x.drop();
        x.made(1, 1, 0);
        Edges.generator("the inverse", x, 3, 1, -1, -2, 3);
        x.drop();
        x.made(2, 1, 0);
        Edges.generator("turned", x, 3, 3, 2, 1, 1);
        x.drop();
        x.made(3, 1, 0);
        Edges.generator("all signs turned", x, 3, -3, -1, -2, -1);
    }

    private static void madeOfOtherSizes() {
        FiniteMatrices mirror = Check.of(2, "2 3/1 1;");
        mirror.made(1, 0, 0);
        Edges.generator("the inverse, the determinant being -1", mirror, 1, -1, 3, 1, -2);
        FiniteMatrices one = Check.of(1, "-1;");
        one.made(1, 0, 0);
        one.made(2, 0, 0);
        one.made(3, 0, 0);
        Edges.generator("one row, the inverse", one, 1, -1);
        Edges.generator("one row, turned", one, 2, -1);
        Edges.generator("one row, signs turned", one, 3, 1);
        FiniteMatrices three = Check.of(3, "1 2 3/0 1 4/0 0 -1;");
        three.made(1, 0, 0);
        three.made(2, 0, 0);
        three.made(3, 0, 0);
        Edges.generator("three rows, the inverse", three, 1, 1, -2, -5, 0, 1, 4, 0, 0, -1);
        Edges.generator("three rows, turned", three, 2, 1, 0, 0, 2, 1, 0, 3, 4, -1);
        Edges.generator("three rows, signs turned", three, 3, -1, -2, -3, 0, -1, -4, 0, 0, 1);
    }

    private static void madeByB() {
        for (int what = 1; what <= 3; what++) {
            for (int b : Edges.outside(0, 1)) {
                FiniteMatrices x = Check.of(2, Edges.SQUARE);
                due("made(0, 1, " + b + ")", x.made(0, 1, b), BAD);
                due("made(" + what + ", 1, " + b + ")", x.made(what, 1, b), 2);
            }
        }
    }

    private static void madeNumber() {
        FiniteMatrices x = Check.of(2, "0 1/1 0;");
        due("the second", x.made(0, 0, 0), 1);
        due("the third", x.made(1, 0, 0), 2);
        due("the fourth", x.made(3, 2, 0), 3);
    }

    private static void madeBad() {
        FiniteMatrices x = Check.of(2, Edges.SQUARE);
        for (int off : Edges.outside(0, 3)) {
            due("what " + off, x.made(off, 0, 0), BAD);
        }
        for (int off : Edges.outside(0, 1)) {
            for (int what = 0; what <= 3; what++) {
                due("a " + off + ", what " + what, x.made(what, off, 0), BAD);
            }
            due("b " + off, x.made(0, 0, off), BAD);
        }
        due("none came", x.many(1), 2);
        FiniteMatrices none = new FiniteMatrices();
        due("a 0 of none", none.made(1, 0, 0), BAD);
    }

    private static void madeFull() {
        FiniteMatrices x = Edges.withFour();
        for (int what = 0; what <= 3; what++) {
            due("a fifth, what " + what, x.made(what, 0, 0), FULL);
        }
        due("four", x.many(1), 4);
    }

    private static void madeOver() {
        FiniteMatrices x = new FiniteMatrices();
        x.unit(0, 1, 98);
        x.unit(0, 1, 1);
        due("99 in a product", x.made(0, 0, 1), 2);
        due("100 in a product", x.made(0, 2, 1), OVER);
        due("none came", x.many(1), 3);
        FiniteMatrices below = new FiniteMatrices();
        below.unit(1, 0, -98);
        below.unit(1, 0, -1);
        due("-99 in a product", below.made(0, 0, 1), 2);
        due("-100 in a product", below.made(0, 2, 1), OVER);
        due("none came", below.many(1), 3);
        due("99 turned", x.made(2, 2, 0), 3);
        due("-99 with its sign turned", below.made(3, 2, 0), 3);
        due("99 of it", below.at(3, 1, 0), 1099);
    }

    private static void madeOverByInverse() {
        due("99 in an inverse", Check.of(3, "1 9 0/0 1 11/0 0 1;").made(1, 0, 0), 1);
        due("100 in an inverse", Check.of(3, "1 10 0/0 1 10/0 0 1;").made(1, 0, 0), OVER);
        due("-99 in an inverse", Check.of(3, "1 -9 0/0 1 11/0 0 1;").made(1, 0, 0), 1);
        due("-100 in an inverse", Check.of(3, "1 -10 0/0 1 10/0 0 1;").made(1, 0, 0), OVER);
        FiniteMatrices x = Check.of(2, "99 98/98 97;");
        due("the inverse of two rows has no other numbers", x.made(1, 0, 0), 1);
        due("far above in a product", x.made(0, 0, 0), OVER);
        Edges.generator("the inverse", x, 1, -97, 98, 98, -99);
    }

    // ---- 5: drop

    private static void dropGoes() {
        FiniteMatrices x = new FiniteMatrices();
        for (int k = 0; k < 4; k++) {
            x.unit(0, 1, k + 5);
        }
        for (int left = 3; left >= 0; left--) {
            due("drop()", x.drop(), left);
            due("generators", x.many(1), left);
            due("it is gone", x.at(left, 0, 1), BAD);
            for (int gen = 0; gen < left; gen++) {
                due("the one ahead stays", x.at(gen, 0, 1), 1005 + gen);
            }
        }
    }

    private static void dropNone() {
        FiniteMatrices x = new FiniteMatrices();
        due("of a new object", x.drop(), NONE);
        x.unit(0, 0, 1);
        x.drop();
        due("behind the last", x.drop(), NONE);
        due("still none", x.many(1), 0);
        due("the next is the first", x.unit(0, 0, 1), 0);
    }

    // ---- 6: at

    private static void atIs() {
        FiniteMatrices x = Check.of(2, "99 98/98 97;-99 -98/-98 -97;0 1/-1 0;");
        Edges.generator("as great as may be", x, 0, 99, 98, 98, 97);
        Edges.generator("as far below 0 as may be", x, 1, -99, -98, -98, -97);
        Edges.generator("unlike, rows for columns", x, 2, 0, 1, -1, 0);
        Edges.generator("three rows", Check.of(3, "1 2 3/0 1 4/0 0 1;"), 0, 1, 2, 3, 0, 1, 4, 0, 0, 1);
    }

    private static void atBad() {
        for (int d = 1; d <= 3; d++) {
            FiniteMatrices x = Edges.ofSize(d);
            due("no generators", x.at(0, 0, 0), BAD);
            x.unit(0, 0, 1);
            for (int off : Edges.outside(0, 0)) {
                due("gen " + off, x.at(off, 0, 0), BAD);
            }
            for (int off : Edges.outside(0, d - 1)) {
                due("row " + off, x.at(0, off, 0), BAD);
                due("column " + off, x.at(0, 0, off), BAD);
            }
        }
        due("a fifth", Edges.withFour().at(4, 0, 0), BAD);
    }

    // ---- 7: of

    private static void ofIs() {
        FiniteMatrices x = Check.of(2, "99 98/98 97;-99 98/98 -97;0 -1/1 1;1 0/0 1;");
        due("determinant -1", x.of(0, 0), 999);
        due("determinant 1", x.of(2, 0), 1001);
        due("a sum far above 0", x.of(0, 1), 1196);
        due("a sum far below 0", x.of(1, 1), 804);
        due("order 6", x.of(2, 2), 6);
        due("order 1", x.of(3, 2), 1);
        FiniteMatrices one = Check.of(1, "1;-1;");
        due("one row, determinant 1", one.of(0, 0), 1001);
        due("one row, determinant -1", one.of(1, 0), 999);
        due("one row, sum", one.of(1, 1), 999);
        due("one row, order 2", one.of(1, 2), 2);
        FiniteMatrices three = Check.of(3, "99 98 0/98 97 0/0 0 -1;0 -1 0/0 0 -1/-1 0 0;");
        due("three rows, determinant 1", three.of(0, 0), 1001);
        due("three rows, determinant -1", three.of(1, 0), 999);
        due("three rows, sum", three.of(0, 1), 1195);
        due("three rows, order 6", three.of(1, 2), 6);
    }

    private static void ofLoose() {
        due("powers that grow slowly", Check.of(2, Edges.SHEAR).of(0, 2), NONE);
        due("powers that grow fast", Check.of(2, "99 98/98 97;").of(0, 2), NONE);
        due("powers that come near", Check.of(2, "-1 1/0 -1;").of(0, 2), NONE);
        due("three rows", Check.of(3, "1 1 0/0 1 0/0 0 -1;").of(0, 2), NONE);
        due("three rows, one that comes back", Check.of(3, "0 1 0/-1 0 1/0 0 1;").of(0, 2), 4);
    }

    private static void ofBad() {
        FiniteMatrices x = Check.of(2, Edges.SQUARE);
        for (int off : Edges.outside(0, 1)) {
            due("gen " + off, x.of(off, 0), BAD);
        }
        for (int off : Edges.outside(0, 2)) {
            due("what " + off, x.of(0, off), BAD);
        }
        due("no generators", new FiniteMatrices().of(0, 0), BAD);
        due("BAD, though another one is loose", Check.of(2, Edges.SHEAR).of(1, 2), BAD);
    }

    // ---- 8: character

    private static void character(FiniteMatrices x, int gen, int... numbers) {
        for (int k = 0; k < numbers.length; k++) {
            due("generator " + gen + ", k " + k, x.character(gen, k), 1000000 + numbers[k]);
        }
        due("generator " + gen + ", no more", x.character(gen, numbers.length), BAD);
    }

    private static void characterIs() {
        FiniteMatrices one = Check.of(1, "1;-1;");
        character(one, 0, -1, 1);
        character(one, 1, 1, 1);
        FiniteMatrices two = Check.of(2, "99 98/98 97;-99 98/98 -97;1 0/0 1;0 -1/1 0;");
        character(two, 0, -1, -196, 1);
        character(two, 1, -1, 196, 1);
        character(two, 2, 1, -2, 1);
        character(two, 3, 1, 0, 1);
        FiniteMatrices three = Check.of(3, "99 98 0/98 97 0/0 0 1;99 98 0/98 97 0/0 0 -1;0 0 1/1 0 0/0 1 3;99 0 98/0 1 0/98 0 97;");
        character(three, 0, 1, 195, -197, 1);
        character(three, 1, -1, -197, -195, 1);
        character(three, 2, -1, 0, -3, 1);
        character(three, 3, 1, 195, -197, 1);
        FiniteMatrices great = Check.of(3, "17 92 -97/-91 -11 -91/91 97 -18;-81 89 94/93 -92 -3/98 -88 89;");
        character(great, 0, 1, 25731, 12, 1);
        character(great, 1, -1, -25698, 84, 1);
    }

    private static void characterBad() {
        for (int d = 1; d <= 3; d++) {
            FiniteMatrices x = Edges.ofSize(d);
            due("no generators", x.character(0, 0), BAD);
            x.unit(0, 0, -1);
            for (int off : Edges.outside(0, d)) {
                due("k " + off + " of " + d, x.character(0, off), BAD);
            }
            for (int off : Edges.outside(0, 0)) {
                due("gen " + off, x.character(off, 0), BAD);
            }
        }
    }

    // ---- 9: factor

    private static void factors(FiniteMatrices x, int gen, int... often) {
        int[] kinds = {1, 2, 3, 4, 6};
        for (int k = 0; k < kinds.length; k++) {
            due("generator " + gen + ", factor " + kinds[k], x.factor(gen, kinds[k]), often[k]);
        }
    }

    private static void factorIs() {
        FiniteMatrices one = Check.of(1, "1;-1;");
        factors(one, 0, 1, 0, 0, 0, 0);
        factors(one, 1, 0, 1, 0, 0, 0);
        FiniteMatrices two = Check.of(2, "1 5/0 1;-1 0/3 -1;0 -1/1 -1;0 -1/1 0;");
        factors(two, 0, 2, 0, 0, 0, 0);
        factors(two, 1, 0, 2, 0, 0, 0);
        factors(two, 2, 0, 0, 1, 0, 0);
        factors(two, 3, 0, 0, 0, 1, 0);
        FiniteMatrices more = Check.of(2, "0 -1/1 1;1 0/0 -1;99 98/98 97;2 1/1 1;");
        factors(more, 0, 0, 0, 0, 0, 1);
        factors(more, 1, 1, 1, 0, 0, 0);
        factors(more, 2, 0, 0, 0, 0, 0);
        factors(more, 3, 0, 0, 0, 0, 0);
        FiniteMatrices three = Check.of(3, "1 2 3/0 1 4/0 0 1;-1 2 0/0 -1 5/0 0 -1;0 1 0/0 0 1/1 0 0;0 -1 0/0 0 -1/-1 0 0;");
        factors(three, 0, 3, 0, 0, 0, 0);
        factors(three, 1, 0, 3, 0, 0, 0);
        factors(three, 2, 1, 0, 1, 0, 0);
        factors(three, 3, 0, 1, 0, 0, 1);
        FiniteMatrices mixed = Check.of(3, "0 -1 7/1 0 9/0 0 -1;1 0 0/0 -1 0/0 0 -1;0 0 1/1 0 0/0 1 3;99 98 0/98 97 0/0 0 1;");
        factors(mixed, 0, 0, 1, 0, 1, 0);
        factors(mixed, 1, 1, 2, 0, 0, 0);
        factors(mixed, 2, 0, 0, 0, 0, 0);
        factors(mixed, 3, 1, 0, 0, 0, 0);
    }

    private static void factorBad() {
        FiniteMatrices x = Check.of(2, Edges.SQUARE);
        for (int k : new int[] {Integer.MIN_VALUE, -6, -1, 0, 5, 7, 12, Integer.MAX_VALUE}) {
            due("factor " + k, x.factor(0, k), BAD);
        }
        for (int off : Edges.outside(0, 1)) {
            due("gen " + off, x.factor(off, 1), BAD);
        }
        due("no generators", new FiniteMatrices().factor(0, 1), BAD);
    }

    // ---- 10: feed

    private static void feedComes() {
        FiniteMatrices x = Edges.ofSize(1);
        for (int n = 1; n <= 8; n++) {
            // What stands above the n lowest bytes must not come.
            String bytes = "        ".substring(0, n) + "xxxxxxxx".substring(n);
            due("n " + n, x.feed(Check.eight(bytes, 0, 8), n), n);
            due("bytes", x.many(2), n);
            due("n blanks", x.text(), 0);
        }
        due("the lowest first", x.feed(Check.eight("-1;-1;1;", 0, 8), 8), 8);
        due("behind those that are there", x.feed(Check.eight("-1;x", 0, 4), 3), 11);
        due("four", x.text(), 4);
        due("the third", x.at(2, 0, 0), 1001);
        due("the fourth", x.at(3, 0, 0), 999);
        due("a number below 0", x.feed(-1, 8), 8);
        due("its bytes are no signs of a text", x.text(), -100);
    }

    private static void feedBad() {
        FiniteMatrices x = new FiniteMatrices();
        for (int n : Edges.outside(1, 8)) {
            due("n " + n, x.feed(32, n), BAD);
        }
        due("none came", x.many(2), 0);
        due("n 1", x.feed(32, 1), 1);
        due("n 8", x.feed(32, 8), 9);
    }

    private static FiniteMatrices withBytes(int n) {
        FiniteMatrices x = new FiniteMatrices();
        for (int k = 0; k < n; k++) {
            x.feed(32, 1);
        }
        return x;
    }

    private static void feedFull() {
        for (int n = 1; n <= 8; n++) {
            FiniteMatrices x = withBytes(120 - n);
            due("n " + n + ", just room", x.feed(0x2020202020202020L, n), 120);
            due("n " + n + ", no room", x.feed(0x2020202020202020L, n), FULL);
            x = withBytes(121 - n);
            due("n " + n + ", one too many", x.feed(0x7878787878787878L, n), FULL);
            due("nothing of it came", x.many(2), 121 - n);
            due("blanks alone", x.text(), 0);
            due("room again", x.feed(32, n), n);
        }
    }

    // ---- 11: text

    private static void textTells() {
        FiniteMatrices x = Edges.withFour();
        due("one", Check.textOf(x, Edges.SIXTH), 1);
        due("generators", x.many(1), 1);
        due("no second one", x.at(1, 0, 0), BAD);
        Edges.generator("that one", x, 0, 0, -1, 1, 1);
        due("four", Check.textOf(x, "1 0/0 1;0 1/1 0;1 1/0 1;99 98/98 97;"), 4);
        Edges.generator("the first", x, 0, 1, 0, 0, 1);
        Edges.generator("the fourth", x, 3, 99, 98, 98, 97);
        due("nothing is told", x.text(), 0);
        due("none", x.many(1), 0);
        due("the list", x.listed(), 1);
        due("blanks tell nothing", Check.textOf(x, "   "), 0);
    }

    private static void textFault() {
        FiniteMatrices x = Check.of(2, Edges.SQUARE);
        due("at the first byte", Check.textOf(x, "x"), -100);
        due("at the second", Check.textOf(x, "1x"), -101);
        due("at the end of one", Check.textOf(x, "1"), -101);
        due("generators stay", x.many(1), 2);
        Edges.generator("the second", x, 1, 1, 0, 0, -1);
        due("bytes are used up", x.many(2), 0);
        StringBuilder text = new StringBuilder();
        while (text.length() < 119) {
            text.append(' ');
        }
        due("at the last of 120", Check.textOf(x, text + "x"), -219);
        due("at the end of 120", Check.textOf(x, text + "1"), -220);
    }

    private static void promises1To6() {
        Says.test("Promise 1", "d is 2; no GENERATORS", GeneratorsEdgesTest::newObject);
        Says.test("Promise 2", "d becomes v", GeneratorsEdgesTest::sizeBecomes);
        Says.test("Promise 2", "if that is another one, there are no GENERATORS then", GeneratorsEdgesTest::sizeOfAnother);
        Says.test("Promise 2", "what it was", GeneratorsEdgesTest::sizeTellsWhatItWas);
        Says.test("Promise 2", "BAD", GeneratorsEdgesTest::sizeBad);
        Says.test("Promise 3", "A GENERATOR: 1 where row and column are alike, else 0, but v at row i, column j",
                GeneratorsEdgesTest::unitIs);
        Says.test("Promise 3", "(i is j: v 1 or -1; else v -99 to 99)", GeneratorsEdgesTest::unitOfNumbers);
        Says.test("Promise 3", "its number", GeneratorsEdgesTest::unitNumber);
        Says.test("Promise 3", "BAD", GeneratorsEdgesTest::unitBad);
        Says.test("Promise 3", "FULL", GeneratorsEdgesTest::unitFull);
        Says.test("Promise 4", "A GENERATOR: 0 a times b, 1 the inverse of a, 2 a turned, 3 a with all signs turned",
                GeneratorsEdgesTest::madeIs);
        Says.test("Promise 4", "1 the inverse of a, 2 a turned, 3 a with all signs turned",
                GeneratorsEdgesTest::madeOfOtherSizes);
        Says.test("Promise 4", "(b counts by 0 alone)", GeneratorsEdgesTest::madeByB);
        Says.test("Promise 4", "its number", GeneratorsEdgesTest::madeNumber);
        Says.test("Promise 4", "BAD: what, a, b that counts", GeneratorsEdgesTest::madeBad);
        Says.test("Promise 4", "FULL", GeneratorsEdgesTest::madeFull);
        Says.test("Promise 4", "OVER: a number is not -99 to 99", GeneratorsEdgesTest::madeOver);
        Says.test("Promise 4", "OVER: a number is not -99 to 99", GeneratorsEdgesTest::madeOverByInverse);
        Says.test("Promise 5", "The last GENERATOR goes: how many there are", GeneratorsEdgesTest::dropGoes);
        Says.test("Promise 5", "NONE: there is none", GeneratorsEdgesTest::dropNone);
        Says.test("Promise 6", "1000 and the number of a GENERATOR at row i, column j", GeneratorsEdgesTest::atIs);
        Says.test("Promise 6", "BAD", GeneratorsEdgesTest::atBad);
    }

    private static void promises7To11() {
        Says.test("Promise 7", "Of a GENERATOR: 0 1000 and its determinant, 1 1000 and the sum of what stands where row and column are alike, 2 ORDER",
                GeneratorsEdgesTest::ofIs);
        Says.test("Promise 7", "(NONE: it is LOOSE)", GeneratorsEdgesTest::ofLoose);
        Says.test("Promise 7", "BAD", GeneratorsEdgesTest::ofBad);
        Says.test("Promise 8", "CHARACTER of a GENERATOR: 1000000 and what x to the k-th is taken times",
                GeneratorsEdgesTest::characterIs);
        Says.test("Promise 8", "BAD", GeneratorsEdgesTest::characterBad);
        Says.test("Promise 9", "How often FACTOR k (1, 2, 3, 4, 6) can be taken out of CHARACTER of a GENERATOR",
                GeneratorsEdgesTest::factorIs);
        Says.test("Promise 9", "BAD", GeneratorsEdgesTest::factorBad);
        Says.test("Promise 10", "The n lowest bytes of a number come to THE TAPE, the lowest first: how many it has",
                GeneratorsEdgesTest::feedComes);
        Says.test("Promise 10", "BAD: n is not 1 to 8", GeneratorsEdgesTest::feedBad);
        Says.test("Promise 10", "FULL", GeneratorsEdgesTest::feedFull);
        Says.test("Promise 11", "MATRICES that THE TAPE tells are GENERATORS, in place of all that were: how many",
                GeneratorsEdgesTest::textTells);
        Says.test("Promise 11", "-100 less the FAULT", GeneratorsEdgesTest::textFault);
    }

    public static void main(String[] args) {
        promises1To6();
        promises7To11();
        Says.wholePromises(1, 11);
        Says.finish();
    }
}
