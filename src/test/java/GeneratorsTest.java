/** Promises 1 to 11. */
public final class GeneratorsTest {
    private static final int BAD = FiniteMatrices.BAD;
    private static final int FULL = FiniteMatrices.FULL;
    private static final int NONE = FiniteMatrices.NONE;
    private static final int OVER = FiniteMatrices.OVER;

    private static void due(String call, long got, long want) {
        Check.due(call, got, want);
    }

    private static void promise1NewObject() {
        FiniteMatrices x = new FiniteMatrices();
        due("1: many(0)", x.many(0), 2);
        due("1: many(1)", x.many(1), 0);
        due("1: many(2)", x.many(2), 0);
        due("1: seed(5)", x.seed(5), 1);
        due("1: again()", x.again(), NONE);
        due("1: listed()", x.listed(), 1);
        due("1: round(0)", x.round(0), NONE);
        for (int sheet = 0; sheet < 4; sheet++) {
            due("1: put(" + sheet + ")", x.put(sheet, 0, 1), -11);
        }
    }

    private static void promise2Size() {
        FiniteMatrices x = new FiniteMatrices();
        due("2: size(0)", x.size(0), BAD);
        due("2: size(4)", x.size(4), BAD);
        due("2: size(least)", x.size(Integer.MIN_VALUE), BAD);
        due("2: size(greatest)", x.size(Integer.MAX_VALUE), BAD);
        due("2: many(0)", x.many(0), 2);
        x.unit(0, 1, 1);
        due("2: size(2), the same", x.size(2), 2);
        due("2: generators stay", x.many(1), 1);
        due("2: size(0) with generators", x.size(0), BAD);
        due("2: generators stay behind a refusal", x.many(1), 1);
        due("2: size(3)", x.size(3), 2);
        due("2: none then", x.many(1), 0);
        due("2: the list is of the new size", x.element(0, 2, 2), 1);
        due("2: size(1)", x.size(1), 3);
        due("2: size(1), the same", x.size(1), 1);
        due("2: no second row", x.element(0, 1, 1), Check.LONG_BAD);
    }

    private static void promise3Unit() {
        FiniteMatrices x = new FiniteMatrices();
        due("3: i below", x.unit(-1, 0, 1), BAD);
        due("3: i above", x.unit(2, 0, 1), BAD);
        due("3: j below", x.unit(0, -1, 1), BAD);
        due("3: j above", x.unit(0, 2, 1), BAD);
        due("3: 0 where alike", x.unit(1, 1, 0), BAD);
        due("3: 2 where alike", x.unit(1, 1, 2), BAD);
        due("3: -2 where alike", x.unit(1, 1, -2), BAD);
        due("3: 100", x.unit(0, 1, 100), BAD);
        due("3: -100", x.unit(0, 1, -100), BAD);
        due("3: none came", x.many(1), 0);
        due("3: 99", x.unit(0, 1, 99), 0);
        due("3: -99", x.unit(1, 0, -99), 1);
        due("3: -1 where alike", x.unit(1, 1, -1), 2);
        due("3: 1 where alike", x.unit(0, 0, 1), 3);
        due("3: at(0, 0, 1)", x.at(0, 0, 1), 1099);
        due("3: at(0, 1, 0)", x.at(0, 1, 0), 1000);
        due("3: at(1, 1, 0)", x.at(1, 1, 0), 901);
        due("3: at(1, 0, 0)", x.at(1, 0, 0), 1001);
        due("3: at(2, 1, 1)", x.at(2, 1, 1), 999);
        due("3: at(2, 0, 0)", x.at(2, 0, 0), 1001);
        due("3: a fifth", x.unit(0, 1, 0), FULL);
        due("3: BAD ahead of FULL", x.unit(0, 1, 100), BAD);
        due("3: still four", x.many(1), 4);
        FiniteMatrices three = new FiniteMatrices();
        three.size(3);
        due("3: unit(2, 1, 0)", three.unit(2, 1, 0), 0);
        due("3: unit(2, 3, 0)", three.unit(2, 3, 0), BAD);
        FiniteMatrices one = new FiniteMatrices();
        one.size(1);
        due("3: d 1, unit(0, 0, -1)", one.unit(0, 0, -1), 0);
        due("3: d 1, unit(0, 1, 0)", one.unit(0, 1, 0), BAD);
    }

    private static void promise4Made() {
        FiniteMatrices x = Check.of(2, "1 2/0 1;3 1/2 1;");
        due("4: what below", x.made(-1, 0, 0), BAD);
        due("4: what above", x.made(4, 0, 0), BAD);
        due("4: a above", x.made(1, 2, 0), BAD);
        due("4: a below", x.made(1, -1, 0), BAD);
        due("4: b above", x.made(0, 0, 2), BAD);
        due("4: b below", x.made(0, 0, -1), BAD);
        due("4: product, b counts", x.made(0, 0, 1), 2);
        due("4: 1 + 2 * 2 and so on", x.at(2, 0, 0), 1007);
        due("4: at(2, 0, 1)", x.at(2, 0, 1), 1003);
        due("4: at(2, 1, 0)", x.at(2, 1, 0), 1002);
        due("4: inverse, b does not count", x.made(1, 1, -7), 3);
        due("4: at(3, 0, 0)", x.at(3, 0, 0), 1001);
        due("4: at(3, 0, 1)", x.at(3, 0, 1), 999);
        due("4: at(3, 1, 0)", x.at(3, 1, 0), 998);
        due("4: at(3, 1, 1)", x.at(3, 1, 1), 1003);
        due("4: a fifth", x.made(2, 0, 0), FULL);
        due("4: BAD ahead of FULL", x.made(2, 4, 0), BAD);
        x.drop();
        due("4: turned, b does not count", x.made(2, 0, 99), 3);
        due("4: turned at 1, 0", x.at(3, 1, 0), 1002);
        due("4: turned at 0, 1", x.at(3, 0, 1), 1000);
        x.drop();
        due("4: signs turned, b does not count", x.made(3, 1, 99), 3);
        due("4: signs at 0, 0", x.at(3, 0, 0), 997);
        due("4: signs at 0, 1", x.at(3, 0, 1), 999);
        madeOfThree();
        madeOver();
    }

    private static void madeOfThree() {
        FiniteMatrices x = Check.of(3, "1 2 3/0 1 4/0 0 -1;");
        due("4: inverse of three rows", x.made(1, 0, 0), 1);
        due("4: times it", x.made(0, 0, 1), 2);
        for (int i = 0; i < 3; i++) {
            for (int j = 0; j < 3; j++) {
                due("4: one at " + i + j, x.at(2, i, j), i == j ? 1001 : 1000);
            }
        }
        due("4: inverse at 0, 2", x.at(1, 0, 2), 1000 + 3 - 8);
        due("4: signs of three rows", x.made(3, 0, 0), 3);
        due("4: its determinant", x.of(3, 0), 1001);
        FiniteMatrices one = Check.of(1, "-1;");
        due("4: inverse of one row", one.made(1, 0, 0), 1);
        due("4: it is itself", one.at(1, 0, 0), 999);
    }

    private static void madeOver() {
        FiniteMatrices x = new FiniteMatrices();
        x.unit(0, 1, 99);
        x.unit(0, 1, 1);
        x.unit(0, 1, -1);
        due("4: 100 in a product", x.made(0, 0, 1), OVER);
        due("4: none came", x.many(1), 3);
        due("4: 98 in a product", x.made(0, 0, 2), 3);
        due("4: FULL ahead of OVER", x.made(0, 0, 1), FULL);
        FiniteMatrices three = Check.of(3, "1 10 0/0 1 10/0 0 1;1 9 0/0 1 11/0 0 1;");
        due("4: 100 in an inverse", three.made(1, 0, 0), OVER);
        due("4: 99 in an inverse", three.made(1, 1, 0), 2);
        due("4: at(2, 0, 2)", three.at(2, 0, 2), 1099);
    }

    private static void promise5Drop() {
        FiniteMatrices x = new FiniteMatrices();
        due("5: none", x.drop(), NONE);
        x.unit(0, 0, -1);
        x.unit(0, 1, 5);
        due("5: one left", x.drop(), 1);
        due("5: the last went", x.at(0, 0, 0), 999);
        due("5: it is gone", x.at(1, 0, 0), BAD);
        due("5: none left", x.drop(), 0);
        due("5: none again", x.drop(), NONE);
        due("5: the list follows", x.listed(), 1);
    }

    private static void promise6At() {
        FiniteMatrices x = Check.of(2, "99 98/1 1;");
        due("6: at(0, 0, 0)", x.at(0, 0, 0), 1099);
        due("6: at(0, 0, 1)", x.at(0, 0, 1), 1098);
        due("6: at(0, 1, 0)", x.at(0, 1, 0), 1001);
        due("6: gen above", x.at(1, 0, 0), BAD);
        due("6: gen below", x.at(-1, 0, 0), BAD);
        due("6: i above", x.at(0, 2, 0), BAD);
        due("6: i below", x.at(0, -1, 0), BAD);
        due("6: j above", x.at(0, 0, 2), BAD);
        due("6: j below", x.at(0, 0, -1), BAD);
    }

    private static void promise7Of() {
        FiniteMatrices x = Check.of(2, "0 -1/1 1;1 1/0 1;0 1/1 0;-99 -98/1 1;");
        due("7: determinant 1", x.of(0, 0), 1001);
        due("7: determinant -1", x.of(2, 0), 999);
        due("7: trace", x.of(0, 1), 1001);
        due("7: trace below 0", x.of(3, 1), 902);
        due("7: order 6", x.of(0, 2), 6);
        due("7: loose", x.of(1, 2), NONE);
        due("7: order 2", x.of(2, 2), 2);
        due("7: loose as it grows", x.of(3, 2), NONE);
        due("7: gen above", x.of(4, 0), BAD);
        due("7: gen below", x.of(-1, 0), BAD);
        due("7: what above", x.of(0, 3), BAD);
        due("7: what below", x.of(0, -1), BAD);
        FiniteMatrices three = Check.of(3, "0 1 0/0 0 1/1 0 0;0 -1 0/1 0 0/0 0 -1;1 0 0/0 1 0/0 0 1;0 -1 0/0 0 -1/-1 0 0;");
        due("7: order 3", three.of(0, 2), 3);
        due("7: order 4", three.of(1, 2), 4);
        due("7: order 1", three.of(2, 2), 1);
        due("7: order 6 of three rows", three.of(3, 2), 6);
        due("7: trace of three rows", three.of(1, 1), 999);
        due("7: determinant of three rows", three.of(3, 0), 999);
    }

    private static void promise8Character() {
        FiniteMatrices x = Check.of(3, "1 2 3/0 1 4/0 0 -1;0 0 1/1 0 0/0 1 3;");
        long[] due = {1, -1, -1, 1};
        for (int k = 0; k < 4; k++) {
            due("8: character(0, " + k + ")", x.character(0, k), 1000000 + due[k]);
        }
        due("8: of the second", x.character(1, 2), 999997);
        due("8: k above", x.character(0, 4), BAD);
        due("8: k below", x.character(0, -1), BAD);
        due("8: gen above", x.character(2, 0), BAD);
        due("8: gen below", x.character(-1, 0), BAD);
        FiniteMatrices two = Check.of(2, "3 1/2 1;");
        due("8: two rows, 0", two.character(0, 0), 1000001);
        due("8: two rows, 1", two.character(0, 1), 999996);
        due("8: two rows, 2", two.character(0, 2), 1000001);
        due("8: two rows, 3", two.character(0, 3), BAD);
        FiniteMatrices one = Check.of(1, "-1;1;");
        due("8: one row, 0", one.character(0, 0), 1000001);
        due("8: one row, 0 of 1", one.character(1, 0), 999999);
        due("8: one row, 1", one.character(0, 1), 1000001);
        due("8: one row, 2", one.character(0, 2), BAD);
    }

    private static void promise9Factor() {
        FiniteMatrices x = Check.of(3, "1 2 3/0 1 4/0 0 1;-1 0 0/0 -1 0/0 0 -1;0 1 0/0 0 1/1 0 0;1 0 0/0 0 -1/0 1 0;");
        int[] kinds = {1, 2, 3, 4, 6};
        int[][] due = {{3, 0, 0, 0, 0}, {0, 3, 0, 0, 0}, {1, 0, 1, 0, 0}, {1, 0, 0, 1, 0}};
        for (int gen = 0; gen < 4; gen++) {
            for (int k = 0; k < 5; k++) {
                due("9: factor(" + gen + ", " + kinds[k] + ")", x.factor(gen, kinds[k]), due[gen][k]);
            }
        }
        int[] wrong = {0, 5, 7, -1, Integer.MAX_VALUE, Integer.MIN_VALUE};
        for (int k : wrong) {
            due("9: factor(0, " + k + ")", x.factor(0, k), BAD);
        }
        due("9: gen above", x.factor(4, 1), BAD);
        due("9: gen below", x.factor(-1, 1), BAD);
        FiniteMatrices two = Check.of(2, "0 -1/1 1;0 -1/1 0;1 0/0 -1;2 1/1 1;");
        due("9: 6 of two rows", two.factor(0, 6), 1);
        due("9: 3 of two rows", two.factor(0, 3), 0);
        due("9: 4 of two rows", two.factor(1, 4), 1);
        due("9: 1 of a mirror", two.factor(2, 1), 1);
        due("9: 2 of a mirror", two.factor(2, 2), 1);
        for (int k : kinds) {
            due("9: none of it", two.factor(3, k), 0);
        }
        FiniteMatrices one = Check.of(1, "1;");
        due("9: one row", one.factor(0, 1), 1);
        due("9: one row, 3", one.factor(0, 3), 0);
    }

    private static void promise10Feed() {
        FiniteMatrices x = new FiniteMatrices();
        due("10: n 0", x.feed(1, 0), BAD);
        due("10: n 9", x.feed(1, 9), BAD);
        due("10: n below 0", x.feed(1, Integer.MIN_VALUE), BAD);
        for (int k = 1; k <= 14; k++) {
            due("10: eight more", x.feed(0x2020202020202020L, 8), 8 * k);
        }
        due("10: 113", x.feed(32, 1), 113);
        due("10: one too many", x.feed(0, 8), FULL);
        due("10: nothing came", x.many(2), 113);
        due("10: 120", x.feed(0x20202020202020L, 7), 120);
        due("10: no more", x.feed(32, 1), FULL);
        due("10: BAD ahead of FULL", x.feed(32, 0), BAD);
        due("10: 120 blanks tell nothing", x.text(), 0);
        due("10: the tape is used up", x.many(2), 0);
        x.feed(Check.eight("0 1/1 0;", 0, 8), 8);
        due("10: the lowest first", x.text(), 1);
        x.feed(Check.eight("0 1/1 0x", 0, 8), 7);
        x.feed(Check.eight(";x", 0, 2), 1);
        due("10: the n lowest alone", x.text(), 1);
    }

    private static void fault(int d, String text, int place) {
        FiniteMatrices x = new FiniteMatrices();
        x.size(d);
        x.unit(0, 0, -1);
        x.orbit(1, 1, 1);
        due("11: '" + text + "'", Check.textOf(x, text), -100 - place);
        due("11: used up behind a fault", x.many(2), 0);
        due("11: generators stay behind a fault", x.many(1), 1);
        due("11: so does the orbit", x.round(0), 2);
    }

    private static void promise11Text() {
        fault(2, "1 0/0 1", 7);
        fault(2, "1 0/0 1 ", 8);
        fault(2, "1 0/0 2;", 7);
        fault(2, "1 0/0 2 ;", 8);
        fault(2, "1 0 0 1;", 4);
        fault(2, "1 0/0;", 5);
        fault(2, "1/0;", 1);
        fault(2, "1 0/0 1/0 0;", 7);
        fault(2, "1 0/0 123;", 8);
        fault(2, "1 -/0 1;", 3);
        fault(2, "- 1 0/0 1;", 1);
        fault(2, "--1 0/0 1;", 1);
        fault(2, "+1 0/0 1;", 0);
        fault(2, ";", 0);
        fault(2, " ;", 1);
        fault(2, "1 0/0 1;;", 8);
        fault(2, "1 0/0 1;1 0/0 -", 15);
        fault(2, "1 0/0 1;x", 8);
        fault(2, "1\t0/0 1;", 1);
        fault(2, "1 0/0 1;1 0/0 1;1 0/0 1;1 0/0 1; 1 0/0 1;", 33);
        fault(2, "1 0/0 1\u00bb", 7);
        fault(1, "1 1;", 2);
        fault(1, "1/1;", 1);
        fault(1, "0;", 1);
        fault(3, "1 0 0/0 1 0;", 11);
        fault(3, "1 0 0/0 1 0/0 0 2;", 17);
        textTaken();
        textOf120();
    }

    private static void textTaken() {
        FiniteMatrices x = new FiniteMatrices();
        due("11: nothing", x.text(), 0);
        due("11: four", Check.textOf(x, "1 0/0 1;1 0/0 1;1 0/0 1;0 1/1 0; "), 4);
        due("11: the fourth", x.at(3, 0, 1), 1001);
        due("11: in place of all", Check.textOf(x, "99-98/-1 1;"), 1);
        due("11: 99", x.at(0, 0, 0), 1099);
        due("11: -98", x.at(0, 0, 1), 902);
        due("11: -1", x.at(0, 1, 0), 999);
        due("11: as far as it goes", Check.textOf(x, "0101/-0-1;"), 1);
        due("11: 01", x.at(0, 0, 0), 1001);
        due("11: 01, the second", x.at(0, 0, 1), 1001);
        due("11: -0", x.at(0, 1, 0), 1000);
        due("11: -1 behind it", x.at(0, 1, 1), 999);
        due("11: blanks", Check.textOf(x, "  0  1 / 1  0  ;  "), 1);
        x.orbit(1, 2, 0);
        due("11: nothing, in place of all", x.text(), 0);
        due("11: none left", x.many(1), 0);
        due("11: no orbit any more", x.round(0), NONE);
        x.size(1);
        due("11: one row", Check.textOf(x, "-1;1;-01;"), 3);
        x.size(3);
        due("11: three rows", Check.textOf(x, "0 1 0/0 0 1/1 0 0;"), 1);
        due("11: its order", x.of(0, 2), 3);
    }

    private static void textOf120() {
        FiniteMatrices x = new FiniteMatrices();
        StringBuilder text = new StringBuilder("0 1/1 0;");
        while (text.length() < 112) {
            text.append(' ');
        }
        text.append("1 1/0 1;");
        due("11: 120 bytes", Check.textOf(x, text.toString()), 2);
        due("11: the last of them", x.at(1, 0, 1), 1001);
        text.setLength(119);
        text.append('/');
        due("11: a fault at the last of 120", Check.textOf(x, text.toString()), -219);
        text.setLength(119);
        text.append(' ');
        due("11: more must come", Check.textOf(x, text.toString()), -220);
    }

    public static void main(String[] args) {
        promise1NewObject();
        promise2Size();
        promise3Unit();
        promise4Made();
        promise5Drop();
        promise6At();
        promise7Of();
        promise8Character();
        promise9Factor();
        promise10Feed();
        promise11Text();
        Check.finish();
    }
}
