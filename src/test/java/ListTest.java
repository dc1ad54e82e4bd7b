/** Promises 12 to 20. */
public final class ListTest {
    private static final int BAD = FiniteMatrices.BAD;
    private static final int NONE = FiniteMatrices.NONE;
    private static final int OVER = FiniteMatrices.OVER;
    /** All matrices that change places and signs of three numbers: 48. */
    private static final String SIGNED = "0 1 0/1 0 0/0 0 1;0 1 0/0 0 1/1 0 0;-1 0 0/0 1 0/0 0 1;";

    private static void due(String call, long got, long want) {
        Check.due(call, got, want);
    }

    private static void promise12Listed() {
        due("12: 48", Check.of(3, SIGNED).listed(), 48);
        due("12: 12", Check.of(2, "0 -1/1 1;0 1/1 0;").listed(), 12);
        due("12: 2", Check.of(1, "-1;-1;").listed(), 2);
        due("12: it ends with 100", Check.of(2, "1 1/0 1;").listed(), 100);
        due("12: it ends with 100, of two", Check.of(2, "1 1/0 1;1 0/1 1;").listed(), 100);
        due("12: it ends where numbers do", Check.of(3, "0 0 1/1 0 0/0 1 3;").listed(), 19);
        // 98 to the fourth is below 1000000000, to the fifth above.
        FiniteMatrices x = Check.of(2, "99 98/1 1;");
        due("12: few before they are too great", x.listed(), 5);
        x.drop();
        due("12: anew when generators go", x.listed(), 1);
        x.unit(0, 0, -1);
        due("12: anew when generators come", x.listed(), 2);
        x.unit(0, 1, 1);
        x.image(3);
        due("12: not by a prime, though one was asked for", x.listed(), 100);
    }

    private static void promise13Whole() {
        due("13: nothing", new FiniteMatrices().whole(), 1);
        due("13: 48", Check.of(3, SIGNED).whole(), 1);
        due("13: 100", Check.of(2, "1 1/0 1;").whole(), 0);
        due("13: too great numbers left out", Check.of(3, "0 0 1/1 0 0/0 1 3;").whole(), 0);
        FiniteMatrices x = Check.of(1, "1;");
        due("13: one", x.whole(), 1);
    }

    private static void promise14Element() {
        FiniteMatrices x = Check.of(2, "1 1/0 1;-1 0/0 1;");
        due("14: the first", x.element(0, 0, 0), 1);
        due("14: the first, beside", x.element(0, 1, 0), 0);
        due("14: by the first generator", x.element(1, 0, 1), 1);
        due("14: by the second", x.element(2, 0, 0), -1);
        due("14: the generator on the right", x.element(4, 0, 1), 1);
        due("14: the generator on the right, sign", x.element(4, 0, 0), -1);
        due("14: the second, then the first", x.element(5, 0, 1), -1);
        due("14: of the last", x.element(99, 1, 1), 1);
        due("14: e above", x.element(100, 0, 0), Check.LONG_BAD);
        due("14: e below", x.element(-1, 0, 0), Check.LONG_BAD);
        due("14: i above", x.element(0, 2, 0), Check.LONG_BAD);
        due("14: i below", x.element(0, -1, 0), Check.LONG_BAD);
        due("14: j above", x.element(0, 0, 2), Check.LONG_BAD);
        due("14: j below", x.element(0, 0, -1), Check.LONG_BAD);
        FiniteMatrices great = Check.of(2, "99 98/1 1;");
        due("14: a great number", great.element(4, 0, 0), 99 * (99L * (99 * 99 + 98) + 98 * 100) + 98 * (99 * 99 + 98 + 100));
    }

    private static void promise15About() {
        FiniteMatrices x = Check.of(2, "1 1/0 1;-1 0/0 1;");
        due("15: the first came from none", x.about(0, 0), -3);
        due("15: the first came by none", x.about(0, 1), -3);
        due("15: the first is not long", x.about(0, 2), 0);
        due("15: the first has order 1", x.about(0, 3), 1);
        due("15: 4 came from 1", x.about(4, 0), 1);
        due("15: 4 came by 1", x.about(4, 1), 1);
        due("15: 4 is 2 long", x.about(4, 2), 2);
        due("15: 4 has order 2", x.about(4, 3), 2);
        due("15: 1 is loose", x.about(1, 3), NONE);
        due("15: 5 came from 2", x.about(5, 0), 2);
        due("15: 5 came by 0", x.about(5, 1), 0);
        due("15: e above", x.about(100, 0), BAD);
        due("15: e below", x.about(-1, 0), BAD);
        due("15: what above", x.about(0, 4), BAD);
        due("15: what below", x.about(0, -1), BAD);
        FiniteMatrices three = Check.of(3, SIGNED);
        due("15: the last is long", three.about(47, 2) > 3 ? 1 : 0, 1);
        due("15: e above 47", three.about(48, 2), BAD);
        FiniteMatrices great = Check.of(2, "99 98/1 1;");
        due("15: loose as powers are too great", great.about(4, 3), NONE);
    }

    private static void promise16Witness() {
        due("16: nothing", new FiniteMatrices().witness(), NONE);
        due("16: all come back", Check.of(3, SIGNED).witness(), NONE);
        due("16: the first generator", Check.of(2, "1 1/0 1;").witness(), 1);
        due("16: two mirrors", Check.of(2, "1 0/0 -1;1 1/0 -1;").witness(), 3);
        due("16: behind one that comes back", Check.of(2, "0 1/1 0;1 1/0 1;").witness(), 2);
    }

    private static void promise17Found() {
        FiniteMatrices x = Check.of(2, "0 1/1 0;1 0/0 -1;");
        // Asked ahead of all other calls: the list is not there yet.
        due("17: 12", x.found(12), 3);
        due("17: 21", x.found(21), 4);
        due("17: none", x.found(0), 0);
        due("17: 1", x.found(1), 1);
        due("17: 2", x.found(2), 2);
        due("17: 9 digits", x.found(121212121), 1);
        due("17: 10 digits", x.found(1111111111), BAD);
        due("17: below 0", x.found(-1), BAD);
        due("17: least", x.found(Integer.MIN_VALUE), BAD);
        due("17: no such generator", x.found(13), BAD);
        due("17: no such generator, first", x.found(31), BAD);
        due("17: a 0 within", x.found(101), BAD);
        due("17: a 0 behind", x.found(10), BAD);
        due("17: no generators", new FiniteMatrices().found(1), BAD);
        FiniteMatrices great = Check.of(2, "99 98/1 1;1 0/0 1;");
        due("17: within", great.found(1111), 4);
        due("17: too great", great.found(11111), OVER);
        due("17: too great on the way", great.found(111112222), OVER);
        due("17: BAD ahead of OVER", great.found(111113), BAD);
        due("17: BAD ahead of OVER, from the left", great.found(311111), BAD);
        FiniteMatrices many = Check.of(2, "1 1/0 1;1 0/1 1;");
        due("17: not in it", many.found(111111111), NONE);
        FiniteMatrices edge = Check.of(2, "3 1/1 0;23 1/1 0;11 1/1 0;22 1/1 0;");
        due("17: 1000000000, just within", edge.found(112413324), NONE);
        FiniteMatrices beyond = Check.of(2, "18 1/1 0;1 1/1 0;37 1/1 0;13 1/1 0;");
        due("17: 1000000001, just beyond", beyond.found(221334233), OVER);
        FiniteMatrices back = Check.of(2, "99 98/1 1;1 -98/-1 99;");
        due("17: and back", back.found(11112222), 0);
        due("17: too great on the way, though not in the end", back.found(111112), OVER);
    }

    private static void promise18Middle() {
        due("18: nothing", new FiniteMatrices().middle(), 1);
        due("18: one and its negative", Check.of(3, SIGNED).middle(), 2);
        due("18: all", Check.of(2, "0 -1/1 1;").middle(), 6);
        due("18: of eight", Check.of(2, "0 1/1 0;1 0/0 -1;").middle(), 2);
        due("18: one alone", Check.of(3, "1 0 0/0 0 -1/0 1 0;0 0 1/0 1 0/-1 0 0;").middle(), 1);
        due("18: of no end", Check.of(2, "1 1/0 1;").middle(), 100);
        due("18: great numbers", Check.of(3, "0 0 1/1 0 0/0 1 3;").middle(), 19);
    }

    private static void promise19Form() {
        FiniteMatrices x = Check.of(2, "0 -1/1 1;");
        due("19: 0, 0", x.form(0, 0), 2);
        due("19: 0, 1", x.form(0, 1), 1);
        due("19: 1, 0", x.form(1, 0), 1);
        due("19: 1, 1", x.form(1, 1), 2);
        due("19: i above", x.form(2, 0), Check.LONG_BAD);
        due("19: i below", x.form(-1, 0), Check.LONG_BAD);
        due("19: j above", x.form(0, 2), Check.LONG_BAD);
        due("19: j below", x.form(0, -1), Check.LONG_BAD);
        FiniteMatrices never = Check.of(2, "1 1/0 1;");
        due("19: no end", never.form(0, 0), Check.LONG_NONE);
        due("19: BAD ahead of NONE", never.form(0, 2), Check.LONG_BAD);
        FiniteMatrices mirror = Check.of(2, "1 99/0 -1;");
        due("19: mirror 0, 0", mirror.form(0, 0), 2);
        due("19: mirror 0, 1", mirror.form(0, 1), 99);
        due("19: mirror 1, 1", mirror.form(1, 1), 99 * 99 + 2);
        FiniteMatrices three = Check.of(3, SIGNED);
        due("19: three rows", three.form(2, 2), 1);
        due("19: three rows, beside", three.form(0, 2), 0);
        FiniteMatrices below = Check.of(2, "1 -2/0 -1;");
        due("19: below 0", below.form(0, 1), -1);
        due("19: by the divisor", below.form(0, 0), 1);
        due("19: by the divisor, too", below.form(1, 1), 3);
    }

    private static void promise20Keeps() {
        FiniteMatrices x = Check.of(2, "0 -1/1 1;");
        due("20: sheet above", x.keeps(4, 0), BAD);
        due("20: sheet below", x.keeps(-1, 0), BAD);
        due("20: missing", x.keeps(0, 0), -11);
        Check.fill(x, 0, 1, 2, 1, 1, 2);
        due("20: longs", x.keeps(0, 0), -13);
        due("20: longs ahead of outside", x.keeps(0, 9), -13);
        Check.fill(x, 0, 2, 2, 1, 1, 2);
        due("20: shorts", x.keeps(0, 0), -13);
        Check.fill(x, 0, 0, 7, 2, 1, 1, 2, 1000001);
        due("20: it keeps", x.keeps(0, 1), 1);
        due("20: it does not", x.keeps(0, 0), 0);
        due("20: too great", x.keeps(0, 2), OVER);
        due("20: outside ahead of too great", x.keeps(0, 3), -12);
        due("20: i below 0", x.keeps(0, -1), -12);
        due("20: i far beyond", x.keeps(0, Integer.MAX_VALUE), -12);
        Check.fill(x, 0, 0, 1000000, 500000, 500000, 1000000);
        due("20: as great as may be", x.keeps(0, 0), 1);
        x.put(0, 0, -1000001);
        due("20: too far below 0", x.keeps(0, 0), OVER);
        x.put(0, 0, -1000000);
        due("20: as far below 0 as may be", x.keeps(0, 0), 0);
        Check.fill(x, 0, 0, -2, -1, -1, -2);
        due("20: below 0", x.keeps(0, 0), 0);
        Check.fill(x, 0, 0, 0, 0, 0, 0);
        due("20: all 0", x.keeps(0, 0), 0);
        keepsNothingElse();
    }

    private static void keepsNothingElse() {
        FiniteMatrices x = new FiniteMatrices();
        Check.fill(x, 1, 0, 2, 1, 1, 2, 1, 2, 3, 5, 1, 2, 2, 1);
        due("20: no generators", x.keeps(1, 0), 1);
        due("20: not alike", x.keeps(1, 4), 0);
        due("20: its determinant is below 0", x.keeps(1, 8), 0);
        FiniteMatrices three = new FiniteMatrices();
        three.size(3);
        Check.fill(three, 2, 0, 1, 0, 0, 0, 1, 0, 0, 0, 1, 1, 0, 0, 0, -1, 0, 0, 0, -1);
        due("20: three rows", three.keeps(2, 0), 1);
        due("20: the second is below 0", three.keeps(2, 9), 0);
        three.unit(0, 1, 1);
        due("20: a generator changes it", three.keeps(2, 0), 0);
        FiniteMatrices great = new FiniteMatrices();
        great.size(3);
        Check.fill(great, 0, 0, 1000000, 999999, -1000000, 999999, 1000000, 1000000, -1000000, 1000000, 1000000);
        due("20: a determinant far below 0", great.keeps(0, 0), 0);
        FiniteMatrices one = Check.of(1, "-1;");
        Check.fill(one, 0, 0, 5, 0);
        due("20: one row", one.keeps(0, 0), 1);
        due("20: one row of 0", one.keeps(0, 1), 0);
    }

    public static void main(String[] args) {
        promise12Listed();
        promise13Whole();
        promise14Element();
        promise15About();
        promise16Witness();
        promise17Found();
        promise18Middle();
        promise19Form();
        promise20Keeps();
        Check.finish();
    }
}
