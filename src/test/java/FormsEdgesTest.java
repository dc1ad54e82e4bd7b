/** Part 2 of the document's terms, sentence by sentence: THE FORM, BY p, THE ORBIT, STILL, MIDDLE. */
public final class FormsEdgesTest {
    private static final int NONE = FiniteMatrices.NONE;
    private static final int[] PRIMES = {2, 3, 5, 7};
    private static final long BILLION = 1000000000;
    private static final String PART = "Terms 2";

    private static void due(String call, long got, long want) {
        Says.due(call, got, want);
    }

    // ---- the form

    private static void form(String which, FiniteMatrices x, long... numbers) {
        int d = x.many(0);
        for (int k = 0; k < d * d; k++) {
            due(which + " at " + k / d + ", " + k % d, x.form(k / d, k % d), numbers[k]);
        }
    }

    private static void formIfWhole() {
        due("100", Check.of(2, Edges.SHEAR).form(0, 0), Check.LONG_NONE);
        due("few, but numbers grow", Check.of(2, Edges.STEEP).form(0, 0), Check.LONG_NONE);
        due("whole", Check.of(2, Edges.SIXTH).form(0, 0), 2);
        due("no generators", new FiniteMatrices().form(1, 1), 1);
    }

    private static void turnedTimesThemselves() {
        form("rows for columns, then times it", Check.of(2, "1 99/0 -1;"), 2, 99, 99, 9803);
        form("the other way", Check.of(2, "1 0/99 -1;"), 9803, -99, -99, 2);
        form("three rows", Check.of(3, "1 0 3/0 1 0/0 0 -1;"), 2, 0, 3, 0, 2, 0, 3, 0, 11);
        form("one row", Check.of(1, "-1;"), 1);
    }

    private static void byTheDivisor() {
        form("all 48 are one", Check.of(3, Edges.SIGNED), 1, 0, 0, 0, 1, 0, 0, 0, 1);
        // The sum is 8 4 / 4 8: what is beside must count, too.
        form("by 4, not by 8", Check.of(2, Edges.SIXTH), 2, 1, 1, 2);
        form("by 2, with numbers below 0", Check.of(2, "1 -2/0 -1;"), 1, -1, -1, 3);
        form("by 1", Check.of(2, "1 99/0 -1;"), 2, 99, 99, 9803);
    }

    private static int keeps(FiniteMatrices x, long... table) {
        Check.fill(x, 0, 0, table);
        return x.keeps(0, 0);
    }

    private static void keepsIfAlike() {
        FiniteMatrices x = new FiniteMatrices();
        due("alike", keeps(x, 2, 1, 1, 2), 1);
        due("not alike", keeps(x, 2, 1, 0, 2), 0);
        due("not alike by the sign", keeps(x, 2, 1, -1, 2), 0);
        FiniteMatrices three = Edges.ofSize(3);
        due("three rows, alike", keeps(three, 2, 0, 1, 0, 2, 0, 1, 0, 2), 1);
        due("three rows, not alike in the corner", keeps(three, 2, 0, 1, 0, 2, 0, 0, 0, 2), 0);
        due("three rows, not alike at the end", keeps(three, 2, 0, 0, 0, 2, 0, 0, 1, 2), 0);
    }

    private static void keepsIfAboveZero() {
        FiniteMatrices one = Edges.ofSize(1);
        due("one row, 1", keeps(one, 1), 1);
        due("one row, 0", keeps(one, 0), 0);
        due("one row, -1", keeps(one, -1), 0);
        FiniteMatrices two = new FiniteMatrices();
        due("the second is 1", keeps(two, 2, 3, 3, 5), 1);
        due("the second is 0", keeps(two, 2, 2, 2, 2), 0);
        due("the second is -1", keeps(two, 2, 3, 3, 4), 0);
        due("the first is 0", keeps(two, 0, 0, 0, 1), 0);
        due("the first is below 0, the second above", keeps(two, -1, 0, 0, -1), 0);
        FiniteMatrices three = Edges.ofSize(3);
        due("the third is 1", keeps(three, 1, 0, 0, 0, 2, 1, 0, 1, 1), 1);
        due("the third is 0", keeps(three, 1, 0, 0, 0, 1, 1, 0, 1, 1), 0);
        due("the third is -1", keeps(three, 1, 0, 0, 0, 1, 1, 0, 1, 0), 0);
        due("the second alone is below 0", keeps(three, 1, 0, 0, 0, -1, 0, 0, 0, -1), 0);
        due("the first and the second are below 0", keeps(three, -1, 0, 0, 0, 1, 0, 0, 0, -1), 0);
        due("the first and the third are below 0", keeps(three, -1, 0, 0, 0, -1, 0, 0, 0, -1), 0);
        long most = 1000000;
        due("great numbers", keeps(three, most, 0, 0, 0, most, 0, 0, 0, most), 1);
        due("great numbers, the third far below 0", keeps(three, most, 999999, -most, 999999, most, most, -most, most, most), 0);
        due("great numbers, the second is 1", keeps(two, 514229, 317811, 317811, 196418), 1);
        due("great numbers, the second is -1", keeps(two, 832040, 514229, 514229, 317811), 0);
        due("great numbers, the third is 1", keeps(three, 1, 0, 0, 0, 514229, 317811, 0, 317811, 196418), 1);
        due("great numbers, the third is -1", keeps(three, 1, 0, 0, 0, 832040, 514229, 0, 514229, 317811), 0);
        due("great numbers, the second is above 0", keeps(two, most, 999999, 999999, most), 1);
    }

    private static void keepsIfNoGeneratorChangesIt() {
        FiniteMatrices x = Check.of(2, "1 99/0 -1;");
        due("turned, times it, times the generator", keeps(x, 2, 99, 99, 9803), 1);
        due("not the other way", keeps(x, 9803, -99, -99, 2), 0);
        due("changed", keeps(x, 1, 0, 0, 1), 0);
        x.unit(0, 0, -1);
        due("the second one changes it", keeps(x, 2, 99, 99, 9803), 0);
        FiniteMatrices two = Check.of(2, "1 0/0 -1;1 1/0 -1;");
        due("the first one alone changes it", keeps(two, 2, 1, 1, 2), 0);
        FiniteMatrices half = Check.of(2, "2 1/1 1;");
        due("none is kept by one that never comes back", keeps(half, 2, -1, -1, 2), 0);
        due("no generators change nothing", keeps(new FiniteMatrices(), 3, 1, 1, 3), 1);
        due("-1 changes nothing", keeps(Check.of(1, "-1;"), 1000000), 1);
    }

    // ---- by p

    private static void whatIsLeft() {
        for (int p : PRIMES) {
            due("one below 0, by " + p, Check.of(2, "1 -1/0 1;").image(p), p);
            due("35, by " + p, Check.of(2, "1 35/0 1;").image(p), p == 5 || p == 7 ? 1 : p);
            due("-99, by " + p, Check.of(2, "1 -99/0 1;").image(p), p == 3 ? 1 : p);
            due("-1 and p less 1 are the same, by " + p, Check.of(2, "1 -1/0 1;1 " + (p - 1) + "/0 1;").image(p), p);
            due("-1 is 1 by 2 alone, by " + p, Check.of(1, "-1;").image(p), p == 2 ? 1 : 2);
        }
        for (int p : new int[] {0, 1, 4, 6, 8, 9, 11, -2, -7}) {
            due("by " + p, new FiniteMatrices().image(p), FiniteMatrices.BAD);
        }
    }

    private static void theImage() {
        FiniteMatrices x = Check.of(3, "1 0 1/0 1 0/0 0 1;0 -1 0/1 0 0/0 0 1;-1 0 0/0 -1 0/0 0 -1;");
        due("no more to come, 8", x.image(2), 8);
        due("no more to come, 72", x.image(3), 72);
        due("no more to come, 200", x.image(5), 200);
        due("no more to come, 392", x.image(7), 392);
        due("no more to come, 343", Check.of(3, "1 1 0/0 1 0/0 0 1;1 0 0/0 1 1/0 0 1;").image(7), 343);
        due("with 400", Check.of(3, "1 1 0/0 1 0/0 0 1;1 0 0/0 1 1/0 0 1;-1 0 0/0 1 0/0 0 1;").image(7), 400);
        due("with 400, of two rows", Check.of(2, "1 1/0 1;1 0/1 1;0 1/1 0;").image(7), 400);
        FiniteMatrices great = Check.of(2, Edges.STEEP);
        due("numbers that grow do not end it", great.image(7), 7);
        due("nor with four", Check.of(2, "99 98/98 97;99 98/98 97;99 98/98 97;99 98/98 97;").image(2), 1);
    }

    private static void noTwoAlike() {
        due("1 and -1 by 2", Check.of(1, "-1;").faithful(2), 0);
        due("1 and -1 by 3", Check.of(1, "-1;").faithful(3), 1);
        due("the eighth is the first by 7", Check.of(2, Edges.SHEAR).faithful(7), 0);
        due("five by 7", Check.of(2, Edges.STEEP).faithful(7), 1);
        due("five by 5, the last is like the first", Check.of(2, Edges.STEEP).faithful(5), 0);
        due("numbers below 0", Check.of(2, "0 -1/1 0;").faithful(3), 1);
        due("numbers below 0, by 2", Check.of(2, "0 -1/1 0;").faithful(2), 0);
        due("one alone", new FiniteMatrices().faithful(2), 1);
    }

    // ---- the orbit

    private static void orderOfTheOrbit() {
        FiniteMatrices x = Check.of(2, "0 1/1 0;1 0/0 -1;1 0/0 1;");
        due("eight", x.orbit(1, 2, 0), 8);
        long[][] points = {{1, 2}, {2, 1}, {1, -2}, {2, -1}, {-2, 1}, {-1, 2}, {-2, -1}, {-1, -2}};
        for (int k = 0; k < 8; k++) {
            due("point " + k + ", number 0", x.point(k, 0), points[k][0]);
            due("point " + k + ", number 1", x.point(k, 1), points[k][1]);
        }
        due("it is not in it twice", x.orbit(0, 0, 0), 1);
    }

    private static void numbersOfTheOrbit() {
        FiniteMatrices x = Check.of(2, "70 47/73 49;");
        due("1000000000 is in it", x.orbit(688, 416, 0), 4);
        due("that number", Math.max(x.point(3, 0), x.point(3, 1)), BILLION);
        due("-1000000000 is in it", x.orbit(-688, -416, 0), 4);
        due("that number below 0", Math.min(x.point(3, 0), x.point(3, 1)), -BILLION);
        for (int sign = -1; sign <= 1; sign += 2) {
            // The second generator adds the third number to the second: 1 more than 1000000000.
            FiniteMatrices more = Check.of(3, "70 47 0/73 49 0/0 0 1;1 0 0/0 1 1/0 0 1;");
            int points = more.orbit(688 * sign, 416 * sign, sign);
            long far = 0;
            for (int k = 0; k < points; k++) {
                far = Math.max(far, sign * more.point(k, 1));
            }
            due("1000000001 is not in it, sign " + sign, far, BILLION);
            due("so it is not closed", more.round(1), 0);
        }
    }

    private static void endOfTheOrbit() {
        FiniteMatrices x = Check.of(2, Edges.SHEAR);
        due("with 60", x.orbit(0, 1, 0), 60);
        due("the sixtieth", x.point(59, 0), 59);
        due("no other behind it", x.point(60, 0), Check.LONG_BAD);
        due("no more to come", x.orbit(1, 0, 0), 1);
        due("48", Check.of(3, Edges.SIGNED).orbit(-3, 1, 2), 48);
        due("60 of four", Check.of(2, "1 1/0 1;1 0/1 1;1 -1/0 1;1 0/-1 1;").orbit(1, 1, 0), 60);
    }

    private static int closed(FiniteMatrices x, int a, int b, int c) {
        x.orbit(a, b, c);
        return x.round(1);
    }

    private static void closedOrbit() {
        due("no generators", closed(new FiniteMatrices(), 1, 2, 3), 1);
        due("48", closed(Check.of(3, Edges.SIGNED), 1, 2, 3), 1);
        due("60, and more would come", closed(Check.of(2, Edges.SHEAR), 0, 1, 0), 0);
        due("one, though the list has no end", closed(Check.of(2, Edges.SHEAR), 1, 0, 0), 1);
        due("few, but numbers grow", closed(Check.of(2, Edges.STEEP), 1000, 0, 0), 0);
        due("only the last generator leads out", closed(Check.of(2, "1 0/0 1;99 98/1 1;"), 1000, 0, 0), 0);
        due("only the first generator leads out", closed(Check.of(2, "99 98/1 1;1 0/0 1;"), 1000, 0, 0), 0);
    }

    private static FiniteMatrices withOrbit() {
        FiniteMatrices x = Check.of(2, Edges.SQUARE);
        x.keep();
        Check.fill(x, 0, 0, 0, 1, 1, 0);
        x.orbit(1, 2, 0);
        return x;
    }

    private static void gone(String behind, FiniteMatrices x, long answer, long want) {
        due(behind, answer, want);
        due("none behind " + behind, x.round(0), NONE);
        due("no point behind " + behind, x.point(0, 0), Check.LONG_BAD);
    }

    private static void stays(String behind, FiniteMatrices x, long answer, long want) {
        due(behind, answer, want);
        due("it stays behind " + behind, x.round(0), 8);
        due("closed behind " + behind, x.round(1), 1);
        due("its last point behind " + behind, x.point(7, 0), -1);
        due("its round behind " + behind, x.round(2), 8);
    }

    private static void noneAnyMore() {
        FiniteMatrices x = withOrbit();
        gone("unit", x, x.unit(0, 1, 0), 2);
        x = withOrbit();
        gone("made", x, x.made(1, 0, 0), 2);
        x = withOrbit();
        gone("take", x, x.take(0, 0), 2);
        x = withOrbit();
        gone("lot", x, x.lot(1), 1);
        x = withOrbit();
        gone("drop", x, x.drop(), 1);
        x = withOrbit();
        gone("size", x, x.size(3), 2);
        x = withOrbit();
        gone("text of others", x, Check.textOf(x, "1 0/0 1;"), 1);
        x = withOrbit();
        gone("text of none", x, x.text(), 0);
        x = withOrbit();
        x.drop();
        x.orbit(1, 2, 0);
        gone("again", x, x.again(), 2);
    }

    private static void stillThere() {
        FiniteMatrices x = withOrbit();
        stays("unit refused", x, x.unit(0, 1, 100), -1);
        stays("made refused", x, x.made(0, 0, 2), -1);
        stays("take refused", x, x.take(0, 1), -12);
        stays("lot refused", x, x.lot(0), -1);
        stays("size refused", x, x.size(4), -1);
        stays("size as it is", x, x.size(2), 2);
        stays("text refused", x, Check.textOf(x, "1 0/0 1"), -107);
        stays("orbit refused", x, x.orbit(1001, 0, 0), -1);
        stays("keep", x, x.keep(), 1);
        stays("seed", x, x.seed(5), 1);
        stays("sheet", x, x.sheet(0, -1, 0), 1);
        stays("feed", x, x.feed(32, 1), 1);
        stays("listed", x, x.listed(), 8);
        stays("image", x, x.image(7), 8);
        stays("faithful", x, x.faithful(7), 1);
        stays("still", x, x.still(1, 1, 1), 2);
        FiniteMatrices four = Check.of(2, "0 1/1 0;1 0/0 -1;0 1/1 0;1 0/0 -1;");
        four.orbit(1, 2, 0);
        stays("lot without room", four, four.lot(4), 0);
        stays("unit without room", four, four.unit(0, 1, 1), -2);
    }

    // ---- round, still, middle

    private static int round(FiniteMatrices x, int a, int b, int c) {
        x.orbit(a, b, c);
        return x.round(2);
    }

    private static void roundOfTheOrbit() {
        due("no generators", round(new FiniteMatrices(), 1, 2, 0), 1);
        due("all leave it", round(Check.of(2, "1 1/0 1;1 2/0 1;"), 1, 0, 0), 1);
        due("eight points", round(Check.of(2, Edges.SQUARE), 1, 2, 0), 8);
        due("four points, eight ways", round(Check.of(2, Edges.SQUARE), 1, 0, 0), 8);
        due("two points, two ways, of eight", round(Check.of(3, "-1 0 0/0 1 0/0 0 1;1 0 0/0 -1 0/0 0 1;1 0 0/0 1 0/0 0 -1;"), 1, 0, 0), 2);
        due("six points, 48 ways", round(Check.of(3, Edges.SIGNED), 0, 0, 1), 48);
        due("48 points", round(Check.of(3, Edges.SIGNED), 1, 2, 3), 48);
    }

    /** Cycles of the lengths given, side by side. */
    private static int[] cycles(int... lengths) {
        int points = 0;
        for (int length : lengths) {
            points += length;
        }
        int[] places = new int[points];
        int first = 0;
        for (int length : lengths) {
            for (int k = 0; k < length; k++) {
                places[first + k] = first + (k + 1) % length;
            }
            first += length;
        }
        return places;
    }

    private static void roundOf200() {
        due("198", Inside.withPlaces(cycles(2, 9, 11)).round(2), 198);
        due("200", Inside.withPlaces(cycles(8, 25)).round(2), 200);
        due("210 would come", Inside.withPlaces(cycles(2, 3, 5, 7)).round(2), 200);
        due("720 would come", Inside.withPlaces(cycles(6), new int[] {1, 0, 2, 3, 4, 5}).round(2), 200);
        due("120 of 5", Inside.withPlaces(cycles(5), new int[] {1, 0, 2, 3, 4}).round(2), 120);
        int[] sixty = cycles(60);
        due("60 points", Inside.withPlaces(sixty).round(2), 60);
    }

    private static void stillOnes() {
        FiniteMatrices x = Check.of(2, Edges.SQUARE);
        due("all leave 0", x.still(0, 0, 9), 8);
        due("two leave it", x.still(1, 0, 9), 2);
        due("two leave the diagonal", x.still(1, 1, 9), 2);
        due("one leaves it", x.still(1, 2, 9), 1);
        due("of 100", Check.of(2, Edges.SHEAR).still(5, 0, 9), 100);
        due("the element times it, not it times the element", Check.of(2, "1 1/0 1;").still(0, 1, 0), 1);
    }

    private static void middleOnes() {
        due("all of one", Check.of(2, Edges.SIXTH).middle(), 6);
        due("two of eight", Check.of(2, Edges.SQUARE).middle(), 2);
        due("with each generator, not with some", Check.of(2, "0 -1/1 0;1 0/0 -1;").middle(), 2);
        due("of none all", new FiniteMatrices().middle(), 1);
        due("with numbers beyond 1000000000", Check.of(2, Edges.STEEP).middle(), 5);
    }

    private static void formsAndPrimes() {
        Says.test(PART, "THE FORM, if THE LIST is WHOLE", FormsEdgesTest::formIfWhole);
        Says.test(PART, "all ELEMENTS turned (rows for columns), times themselves, added up ELEMENT by ELEMENT",
                FormsEdgesTest::turnedTimesThemselves);
        Says.test(PART, "by the greatest common divisor of all its numbers", FormsEdgesTest::byTheDivisor);
        Says.test(PART, "A table KEEPS, if it is alike, rows for columns", FormsEdgesTest::keepsIfAlike);
        Says.test(PART, "all its determinants of the first 1, 2, .. rows and columns are above 0",
                FormsEdgesTest::keepsIfAboveZero);
        Says.test(PART, "and each GENERATOR turned, times it, times the GENERATOR is it",
                FormsEdgesTest::keepsIfNoGeneratorChangesIt);
        Says.test(PART, "BY p (2, 3, 5, 7): numbers are what they leave by p (0 to p - 1)", FormsEdgesTest::whatIsLeft);
        Says.test(PART, "THE IMAGE: a list like THE LIST, BY p, which ends when there is no more to come, or with 400",
                FormsEdgesTest::theImage);
        Says.test(PART, "FAITHFUL: no two ELEMENTS are alike BY p", FormsEdgesTest::noTwoAlike);
    }

    private static void orbits() {
        Says.test(PART, "THE ORBIT of a POINT: first that; for each in it, in order, and each GENERATOR, in order: "
                + "the GENERATOR times it, likewise", FormsEdgesTest::orderOfTheOrbit);
        Says.test(PART, "if its numbers are -1000000000 to 1000000000", FormsEdgesTest::numbersOfTheOrbit);
        Says.test(PART, "it ends when there is no more to come, or with 60", FormsEdgesTest::endOfTheOrbit);
        Says.test(PART, "It is CLOSED, if each GENERATOR times each in it is in it", FormsEdgesTest::closedOrbit);
        Says.test(PART, "There is none any more, when GENERATORS come, go or become others", FormsEdgesTest::noneAnyMore);
        Says.test(PART, "when GENERATORS come, go or become others", FormsEdgesTest::stillThere);
        Says.test(PART, "ROUND of a CLOSED ORBIT: each GENERATOR puts each POINT in the place of one; all that come of these, "
                + "one behind the other, listed as in THE LIST (first the one that leaves all in their places)",
                FormsEdgesTest::roundOfTheOrbit);
        Says.test(PART, "till there is no more to come, or there are 200: how many", FormsEdgesTest::roundOf200);
        Says.test(PART, "STILL: ELEMENTS that leave a POINT as it is", FormsEdgesTest::stillOnes);
        Says.test(PART, "MIDDLE: ELEMENTS that, times each GENERATOR, are the same as the GENERATOR times them",
                FormsEdgesTest::middleOnes);
    }

    public static void main(String[] args) {
        formsAndPrimes();
        orbits();
        Says.whole(PART);
        Says.finish();
    }
}
