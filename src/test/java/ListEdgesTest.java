import java.util.Arrays;

/** Promises 12 to 20, sentence by sentence, at their edges. */
public final class ListEdgesTest {
    private static final int BAD = FiniteMatrices.BAD;
    private static final int NONE = FiniteMatrices.NONE;
    private static final int OVER = FiniteMatrices.OVER;

    private static void due(String call, long got, long want) {
        Says.due(call, got, want);
    }

    // ---- 12, 13: listed, whole

    private static void listedIs() {
        due("no generators", new FiniteMatrices().listed(), 1);
        due("the one that changes nothing", Check.of(2, "1 0/0 1;").listed(), 1);
        due("one row", Check.of(1, "-1;").listed(), 2);
        due("two rows", Check.of(2, "0 -1/1 1;0 1/1 0;").listed(), 12);
        due("the most of three rows", Check.of(3, Edges.SIGNED).listed(), 48);
        due("no end", Check.of(2, Edges.SHEAR).listed(), 100);
        due("numbers grow", Check.of(2, Edges.STEEP).listed(), 5);
    }

    private static void wholeIs() {
        due("no generators", new FiniteMatrices().whole(), 1);
        due("one row", Check.of(1, "-1;1;-1;1;").whole(), 1);
        due("the most of three rows", Check.of(3, Edges.SIGNED).whole(), 1);
        due("100, and more would come", Check.of(2, Edges.SHEAR).whole(), 0);
        due("few, but numbers grow", Check.of(2, Edges.STEEP).whole(), 0);
        FiniteMatrices x = Check.of(2, Edges.SQUARE);
        due("eight", x.whole(), 1);
        x.unit(0, 1, 1);
        due("with one that never comes back", x.whole(), 0);
        x.drop();
        due("without it", x.whole(), 1);
    }

    // ---- 14: element

    private static void elementIs() {
        FiniteMatrices x = Check.of(2, "49 -50/-50 51;-40 1/-1 0;");
        int e = x.found(11211);
        Edges.element("as far below 0 as may be", x, e, -960792040, 980200001, 980199999, -1000000000);
        Edges.element("as far above 0 as may be", Check.of(2, "49 -50/-50 51;40 -1/1 0;"), e,
                960792040, -980200001, -980199999, 1000000000);
        Edges.element("the last of 100", Check.of(2, Edges.SHEAR), 99, 1, 99, 0, 1);
        Edges.element("the last of three rows", Check.of(3, "0 1 0/0 0 1/1 0 0;"), 2, 0, 0, 1, 1, 0, 0, 0, 1, 0);
        Edges.element("one row", Check.of(1, "-1;"), 1, -1);
    }

    private static void elementBad() {
        for (int d = 1; d <= 3; d++) {
            FiniteMatrices x = Edges.ofSize(d);
            x.unit(0, 0, -1);
            for (int off : Edges.outside(0, 1)) {
                due("e " + off, x.element(off, 0, 0), Check.LONG_BAD);
            }
            for (int off : Edges.outside(0, d - 1)) {
                due("row " + off, x.element(0, off, 0), Check.LONG_BAD);
                due("column " + off, x.element(0, 0, off), Check.LONG_BAD);
            }
        }
        due("e 100", Check.of(2, Edges.SHEAR).element(100, 0, 0), Check.LONG_BAD);
        due("e 1 of one", new FiniteMatrices().element(1, 0, 0), Check.LONG_BAD);
    }

    // ---- 15: about

    private static void aboutIs() {
        FiniteMatrices x = Check.of(2, "1 1/0 1;-1 0/0 1;");
        int[][] came = {{0, 0}, {0, 1}, {1, 0}, {1, 1}, {2, 0}};
        for (int e = 1; e <= 5; e++) {
            due("element " + e + " came from", x.about(e, 0), came[e - 1][0]);
            due("element " + e + " came by", x.about(e, 1), came[e - 1][1]);
            due("element " + e + " is long", x.about(e, 2), e <= 2 ? 1 : 2);
        }
        FiniteMatrices shear = Check.of(2, Edges.SHEAR);
        due("the last came from", shear.about(99, 0), 98);
        due("the last came by", shear.about(99, 1), 0);
        due("the last is long", shear.about(99, 2), 99);
        FiniteMatrices sixth = Check.of(2, Edges.SIXTH);
        int[] orders = {1, 6, 3, 2, 3, 6};
        for (int e = 0; e < 6; e++) {
            due("order of " + e, sixth.about(e, 3), orders[e]);
        }
    }

    private static void aboutTheFirst() {
        for (FiniteMatrices x : new FiniteMatrices[] {new FiniteMatrices(), Check.of(2, "1 0/0 1;"), Check.of(3, Edges.SIGNED)}) {
            due("came from", x.about(0, 0), -3);
            due("came by", x.about(0, 1), -3);
            due("is long", x.about(0, 2), 0);
            due("order", x.about(0, 3), 1);
        }
    }

    private static void aboutLoose() {
        FiniteMatrices x = Check.of(2, "1 1/0 1;-1 0/0 1;");
        due("a shear", x.about(1, 3), NONE);
        due("a mirror", x.about(2, 3), 2);
        due("a shear mirrored", x.about(4, 3), 2);
        due("great numbers", Check.of(2, Edges.STEEP).about(4, 3), NONE);
    }

    private static void aboutBad() {
        FiniteMatrices x = Check.of(2, Edges.SQUARE);
        for (int what = 0; what <= 3; what++) {
            for (int off : Edges.outside(0, 7)) {
                due("about(" + off + ", " + what + ")", x.about(off, what), BAD);
            }
            due("the last, what " + what, x.about(7, what) >= 0 ? 1 : 0, 1);
        }
        for (int off : Edges.outside(0, 3)) {
            due("what " + off, x.about(0, off), BAD);
        }
        due("e 100", Check.of(2, Edges.SHEAR).about(100, 0), BAD);
    }

    // ---- 16: witness

    private static void witnessIs() {
        due("the first generator", Check.of(2, Edges.SHEAR).witness(), 1);
        due("the last generator", Check.of(2, "1 0/0 1;0 1/1 0;1 0/0 -1;1 1/0 1;").witness(), 3);
        due("a product", Check.of(2, "1 0/0 -1;1 1/0 -1;").witness(), 3);
        due("few, though no end", Check.of(2, Edges.STEEP).witness(), 1);
    }

    private static void witnessNone() {
        due("no generators", new FiniteMatrices().witness(), NONE);
        due("one row", Check.of(1, "-1;").witness(), NONE);
        due("two rows", Check.of(2, "0 -1/1 1;0 1/1 0;").witness(), NONE);
        due("three rows", Check.of(3, Edges.SIGNED).witness(), NONE);
    }

    // ---- 17: found

    private static void foundIs() {
        FiniteMatrices x = Check.of(2, "1 1/0 1;-1 0/0 1;1 0/0 -1;1 0/0 1;");
        for (int gen = 0; gen < 3; gen++) {
            due("digit " + (gen + 1), x.found(gen + 1), gen + 1);
        }
        due("a digit for the one that changes nothing", x.found(4), 0);
        due("0: none", x.found(0), 0);
        Edges.element("12: the first one on the left", x, x.found(12), -1, 1, 0, 1);
        Edges.element("21", x, x.found(21), -1, -1, 0, 1);
        due("9 digits", x.found(444444444), 0);
        due("9 digits, each as told", x.found(422444334), 0);
        due("0: none of no generators", new FiniteMatrices().found(0), 0);
    }

    private static void foundBad() {
        FiniteMatrices x = Check.of(2, Edges.SQUARE);
        int[] wrong = {Integer.MIN_VALUE, -12, -1, 3, 9, 10, 13, 31, 20, 101, 120, 1000000000, 1111111111, 1212121212,
            2121212121, Integer.MAX_VALUE, 999999999, 121212123, 321212121, 121202121};
        for (int digits : wrong) {
            due("found(" + digits + ")", x.found(digits), BAD);
        }
        due("no generators", new FiniteMatrices().found(1), BAD);
        FiniteMatrices four = Edges.withFour();
        due("digit 4 of four", four.found(4) >= 0 ? 1 : 0, 1);
        due("digit 5 of four", four.found(5), BAD);
    }

    private static void foundOver() {
        due("1000000000", Check.of(2, "49 -50/-50 51;40 -1/1 0;").found(11211), 32);
        due("-1000000000", Check.of(2, "49 -50/-50 51;-40 1/-1 0;").found(11211), 32);
        FiniteMatrices above = Check.of(2, "-35 -62/22 39;50 -49/-49 48;");
        due("1000000001", above.found(22122), OVER);
        due("ahead of it", above.found(2212) >= 0 ? 1 : 0, 1);
        due("-1000000001", Check.of(2, "35 62/-22 -39;50 -49/-49 48;").found(22122), OVER);
        FiniteMatrices back = Check.of(2, "99 98/1 1;1 -98/-1 99;");
        due("on the way and back", back.found(11112222), 0);
        due("too far on the way, though back", back.found(111112222), OVER);
        due("too far at the end", back.found(11111), OVER);
        due("far too far", Check.of(3, "99 98 0/98 97 0/0 0 1;").found(111111111), OVER);
    }

    private static void foundNone() {
        FiniteMatrices x = Check.of(2, "1 1/0 1;1 0/1 1;");
        due("a word that is in it", x.found(111111) >= 0 ? 1 : 0, 1);
        due("a word that is too long for it", x.found(111111111), NONE);
        FiniteMatrices edge = Check.of(2, "3 1/1 0;23 1/1 0;11 1/1 0;22 1/1 0;");
        due("1000000000, but not in it", edge.found(112413324), NONE);
    }

    // ---- 18: middle

    private static void middleIs() {
        due("no generators", new FiniteMatrices().middle(), 1);
        due("all of one row", Check.of(1, "-1;").middle(), 2);
        due("all of one generator", Check.of(2, Edges.SIXTH).middle(), 6);
        due("all of 100", Check.of(2, Edges.SHEAR).middle(), 100);
        due("two of eight", Check.of(2, Edges.SQUARE).middle(), 2);
        due("one alone", Check.of(3, "0 1 0/1 0 0/0 0 1;0 1 0/0 0 1/1 0 0;").middle(), 1);
        due("two of 48", Check.of(3, Edges.SIGNED).middle(), 2);
        due("great numbers, beyond which products go", Check.of(2, Edges.STEEP).middle(), 5);
        due("of four generators", Edges.withFour().middle(), 2);
        due("of 100 and four generators of three rows", Check.of(3, Edges.FOUR_OF_THREE).middle(), 1);
        FiniteMatrices x = Check.of(2, Edges.SQUARE);
        x.drop();
        due("one that went counts no more", x.middle(), 2);
    }

    // ---- 19: form

    private static void form(String which, FiniteMatrices x, long... numbers) {
        int d = x.many(0);
        for (int k = 0; k < d * d; k++) {
            due(which + " at " + k / d + ", " + k % d, x.form(k / d, k % d), numbers[k]);
        }
    }

    private static void formIs() {
        form("no generators", new FiniteMatrices(), 1, 0, 0, 1);
        form("one row", Check.of(1, "-1;"), 1);
        form("a turn by a sixth", Check.of(2, Edges.SIXTH), 2, 1, 1, 2);
        form("a mirror", Check.of(2, "1 99/0 -1;"), 2, 99, 99, 9803);
        form("numbers below 0", Check.of(2, "1 -2/0 -1;"), 1, -1, -1, 3);
        form("three rows", Check.of(3, "1 2 0/0 -1 0/0 0 1;"), 1, 1, 0, 1, 3, 0, 0, 0, 1);
        form("48", Check.of(3, Edges.SIGNED), 1, 0, 0, 0, 1, 0, 0, 0, 1);
    }

    private static void formBad() {
        for (int d = 1; d <= 3; d++) {
            FiniteMatrices x = Edges.ofSize(d);
            for (int off : Edges.outside(0, d - 1)) {
                due("row " + off, x.form(off, 0), Check.LONG_BAD);
                due("column " + off, x.form(0, off), Check.LONG_BAD);
            }
        }
    }

    private static void formNone() {
        due("100", Check.of(2, Edges.SHEAR).form(0, 0), Check.LONG_NONE);
        due("few, but numbers grow", Check.of(2, Edges.STEEP).form(1, 1), Check.LONG_NONE);
        FiniteMatrices x = Check.of(2, "0 1/1 0;1 1/0 1;");
        due("two generators", x.form(0, 0), Check.LONG_NONE);
        x.drop();
        due("the first alone", x.form(0, 0), 1);
    }

    private static void formOver() {
        long most = 1000000000;
        long over = FiniteMatrices.OVER - Check.FAR;
        long[] numbers = {most, most, most, most, most, most, most, most, -most};
        due("nine of 1000000000", Inside.withList(numbers).form(0, 0), 1);
        long[] more = {most, most, most, most, most, most, most, most, -most, most};
        due("ten of 1000000000", Inside.withList(more).form(0, 0), over);
        // These four make 2 to the 63rd, less 1.
        due("the greatest long", Inside.withList(LONG_BY_SQUARES).form(0, 0), 1);
        long[] beyond = Arrays.copyOf(LONG_BY_SQUARES, 5);
        beyond[4] = 1;
        due("one more", Inside.withList(beyond).form(0, 0), over);
        long[] far = new long[20];
        Arrays.fill(far, most);
        due("a sum that comes round to above 0", Inside.withList(far).form(0, 0), over);
    }

    // ---- 20: keeps

    private static void keepsIs() {
        FiniteMatrices x = Check.of(2, Edges.SIXTH);
        Check.fill(x, 0, 0, 7, 2, 1, 1, 2, 7);
        due("from place 1 on", x.keeps(0, 1), 1);
        due("from place 0 on", x.keeps(0, 0), 0);
        due("the last place that will do", x.keeps(0, 2), 0);
        FiniteMatrices mirror = Check.of(2, "1 99/0 -1;");
        Check.fill(mirror, 3, 0, 2, 99, 99, 9803, 9803, 99, 99, 2);
        due("row by row", mirror.keeps(3, 0), 1);
        due("rows and columns the other way", mirror.keeps(3, 4), 0);
        FiniteMatrices one = Check.of(1, "-1;");
        Check.fill(one, 1, 0, 0, 1);
        due("one row, 0", one.keeps(1, 0), 0);
        due("one row, 1", one.keeps(1, 1), 1);
        FiniteMatrices three = Check.of(3, "1 2 0/0 -1 0/0 0 1;");
        three.sheet(2, 0, 40);
        long[] table = {1, 1, 0, 1, 3, 0, 0, 0, 1};
        for (int k = 0; k < 9; k++) {
            three.put(2, 31 + k, table[k]);
        }
        due("three rows, the last nine of 40", three.keeps(2, 31), 1);
        three.put(2, 39, 0);
        due("three rows, the last is 0", three.keeps(2, 31), 0);
    }

    private static void keepsBad() {
        FiniteMatrices x = new FiniteMatrices();
        for (int off : Edges.outside(0, 3)) {
            due("sheet " + off, x.keeps(off, 0), BAD);
        }
    }

    private static void keepsMissing() {
        FiniteMatrices x = new FiniteMatrices();
        for (int sheet = 0; sheet <= 3; sheet++) {
            due("at first", x.keeps(sheet, 0), -11);
            x.sheet(sheet, 0, 4);
            due("there", x.keeps(sheet, 0), 0);
            x.sheet(sheet, -1, 4);
            due("no more", x.keeps(sheet, 0), -11);
        }
    }

    private static void keepsOtherSort() {
        FiniteMatrices x = new FiniteMatrices();
        Check.fill(x, 0, 1, 1, 0, 0, 1);
        due("longs", x.keeps(0, 0), -13);
        Check.fill(x, 0, 2, 1, 0, 0, 1);
        due("shorts", x.keeps(0, 0), -13);
        Check.fill(x, 0, 0, 1, 0, 0, 1);
        due("ints", x.keeps(0, 0), 1);
    }

    private static void keepsOutside() {
        for (int d = 1; d <= 3; d++) {
            FiniteMatrices x = Edges.ofSize(d);
            x.sheet(0, 0, d * d);
            due("all of it", x.keeps(0, 0), 0);
            for (int off : Edges.outside(0, 0)) {
                due("place " + off + " of " + d * d, x.keeps(0, off), -12);
            }
            x.sheet(0, 0, d * d - 1);
            due("one too few", x.keeps(0, 0), -12);
            x.sheet(0, 0, 0);
            due("none", x.keeps(0, 0), -12);
        }
    }

    private static void keepsOver() {
        FiniteMatrices x = new FiniteMatrices();
        for (int place = 0; place < 4; place++) {
            Check.fill(x, 0, 0, 5, 0, 0, 5, 5);
            x.put(0, place, 1000001);
            due("1000001 at " + place, x.keeps(0, 0), OVER);
            x.put(0, place, -1000001);
            due("-1000001 at " + place, x.keeps(0, 0), OVER);
            x.put(0, place, Integer.MIN_VALUE);
            due("the least at " + place, x.keeps(0, 0), OVER);
            x.put(0, place, -1000000);
            due("-1000000 at " + place, x.keeps(0, 0), 0);
        }
        Check.fill(x, 0, 0, 1000000, 0, 0, 1000000, 1000001);
        due("1000000, and beside it more", x.keeps(0, 0), 1);
        FiniteMatrices three = Edges.ofSize(3);
        Check.fill(three, 0, 0, 1000000, 0, 0, 0, 1000000, 0, 0, 0, 1000000);
        due("three rows", three.keeps(0, 0), 1);
    }

    /** Squares that add up to the greatest long. */
    private static final long[] LONG_BY_SQUARES = {3037000499L, 76994, 671, 23};

    private static void promises12To16() {
        Says.test("Promise 12", "How many ELEMENTS", ListEdgesTest::listedIs);
        Says.test("Promise 13", "1 if THE LIST is WHOLE, else 0", ListEdgesTest::wholeIs);
        Says.test("Promise 14", "The number of an ELEMENT at row i, column j", ListEdgesTest::elementIs);
        Says.test("Promise 14", "Refused as told: BAD", ListEdgesTest::elementBad);
        Says.test("Promise 15", "Of an ELEMENT: 0 from which it CAME, 1 by which GENERATOR (both -3 of the first), 2 how LONG it is, 3 ORDER",
                ListEdgesTest::aboutIs);
        Says.test("Promise 15", "(both -3 of the first)", ListEdgesTest::aboutTheFirst);
        Says.test("Promise 15", "(NONE: it is LOOSE)", ListEdgesTest::aboutLoose);
        Says.test("Promise 15", "BAD", ListEdgesTest::aboutBad);
        Says.test("Promise 16", "The first ELEMENT that is LOOSE", ListEdgesTest::witnessIs);
        Says.test("Promise 16", "NONE", ListEdgesTest::witnessNone);
    }

    private static void promises17To20() {
        Says.test("Promise 17", "What comes of GENERATORS that are told by digits (1 is GENERATOR 0, and so on; the first one on the left; "
                + "9 digits at most; 0: none), multiplied: which ELEMENT it is", ListEdgesTest::foundIs);
        Says.test("Promise 17", "BAD", ListEdgesTest::foundBad);
        Says.test("Promise 17", "OVER: a number is not -1000000000 to 1000000000 on the way", ListEdgesTest::foundOver);
        Says.test("Promise 17", "NONE: it is not in THE LIST", ListEdgesTest::foundNone);
        Says.test("Promise 18", "How many ELEMENTS are in the MIDDLE", ListEdgesTest::middleIs);
        Says.test("Promise 19", "THE FORM at row i, column j", ListEdgesTest::formIs);
        Says.test("Promise 19", "Refused as told: BAD", ListEdgesTest::formBad);
        Says.test("Promise 19", "NONE: THE LIST is not WHOLE", ListEdgesTest::formNone);
        Says.test("Promise 19", "OVER: a sum on the way is no long", ListEdgesTest::formOver);
        Says.test("Promise 20", "1 if the table of d times d numbers from place i of a row of ints on, row by row, KEEPS, else 0",
                ListEdgesTest::keepsIs);
        Says.test("Promise 20", "BAD: sheet", ListEdgesTest::keepsBad);
        Says.test("Promise 20", "-11", ListEdgesTest::keepsMissing);
        Says.test("Promise 20", "-13", ListEdgesTest::keepsOtherSort);
        Says.test("Promise 20", "-12", ListEdgesTest::keepsOutside);
        Says.test("Promise 20", "OVER: a number is not -1000000 to 1000000", ListEdgesTest::keepsOver);
    }

    public static void main(String[] args) {
        promises12To16();
        promises17To20();
        Says.wholePromises(12, 20);
        Says.finish();
    }
}
