/** Part 3 of the document's terms, sentence by sentence: THE TAPE, TEXT, FAULT, DRAWS, SHEETS. */
public final class TextEdgesTest {
    private static final int BAD = FiniteMatrices.BAD;
    private static final int FULL = FiniteMatrices.FULL;
    private static final String PART = "Terms 3";

    private static void due(String call, long got, long want) {
        Says.due(call, got, want);
    }

    private static void tells(int d, String text, int... numbers) {
        FiniteMatrices x = Edges.ofSize(d);
        int cells = d * d;
        due("'" + text + "'", Check.textOf(x, text), numbers.length / cells);
        for (int k = 0; k < numbers.length; k++) {
            int place = k % cells;
            due("'" + text + "', number " + k, x.at(k / cells, place / d, place % d), 1000 + numbers[k]);
        }
    }

    private static void fault(int d, String text, int place) {
        FiniteMatrices x = Edges.ofSize(d);
        x.unit(0, 0, -1);
        due("'" + text + "' of " + d, Check.textOf(x, text), -100 - place);
        due("'" + text + "': the generator stays", x.at(0, 0, 0), 999);
    }

    private static String blanks(int n) {
        return " ".repeat(n);
    }

    // ---- the tape, the text

    private static void bytesOfTheTape() {
        FiniteMatrices x = new FiniteMatrices();
        for (int k = 1; k <= 120; k++) {
            due("byte " + k, x.feed(32, 1), k);
        }
        due("one more", x.feed(32, 1), FULL);
        due("eight more", x.feed(32, 8), FULL);
        due("120", x.many(2), 120);
        due("all of them are read", x.text(), 0);
        due("none are left", x.many(2), 0);
        tells(1, blanks(118) + "1;", 1);
        fault(1, blanks(119) + "1", 120);
    }

    private static void matricesOfRowsOfNumbers() {
        tells(1, "");
        tells(2, "");
        tells(3, "   ");
        tells(1, "1;", 1);
        tells(1, "1;-1;", 1, -1);
        tells(2, "1 2/0 1;", 1, 2, 0, 1);
        tells(2, "1 2/0 1;0 1/1 0;", 1, 2, 0, 1, 0, 1, 1, 0);
        tells(3, "1 2 3/0 1 4/0 0 1;", 1, 2, 3, 0, 1, 4, 0, 0, 1);
        fault(1, "1/1;", 1);
        fault(1, "1 1;", 2);
        fault(2, "1 0;", 3);
        fault(2, "1 0/0 1/0 0;", 7);
        fault(2, "1/0 1;", 1);
        fault(2, "1 0/0;", 5);
        fault(2, "1 0 0/0 1;", 4);
        fault(2, "1 0/0 1 0;", 8);
        fault(3, "1 0 0/0 1 0;", 11);
        fault(3, "1 0 0/0 1 0/0 0 1/0 0 1;", 17);
        fault(3, "1 0/0 1;", 3);
        fault(2, "1 0//0 1;", 4);
        fault(2, "/1 0/0 1;", 0);
        fault(2, "1 0/0 1;;", 8);
        fault(2, ";1 0/0 1;", 0);
    }

    private static void numbersAsFarAsTheyGo() {
        tells(2, "99 98/98 97;", 99, 98, 98, 97);
        tells(2, "-99-98/98 97;", -99, -98, 98, 97);
        tells(2, "01 00/-00 -01;", 1, 0, 0, -1);
        tells(2, "0101/0001;", 1, 1, 0, 1);
        tells(2, "1-1/0-1;", 1, -1, 0, -1);
        tells(2, "010/-011;", 1, 0, -1, 1);
        fault(2, "010/-01;", 7);
        fault(1, "001;", 2);
        fault(1, "100;", 2);
        fault(1, "-001;", 3);
        fault(1, "-;", 1);
        fault(1, "--1;", 1);
        fault(1, "1-;", 1);
        fault(1, "+1;", 0);
        fault(2, "1 -/0 1;", 3);
        fault(1, "1.0;", 1);
        fault(1, ":;", 0);
        fault(1, "1:;", 1);
    }

    private static void blanksAnywhereElse() {
        tells(1, "  -1  ;  1  ;  ", -1, 1);
        tells(2, " 1  2 / 0  1 ; ", 1, 2, 0, 1);
        tells(2, "1 2/0 1; 0 1/1 0;", 1, 2, 0, 1, 0, 1, 1, 0);
        tells(3, " 1 2 3 / 0 1 4 / 0 0 1 ; ", 1, 2, 3, 0, 1, 4, 0, 0, 1);
        fault(1, "- 1;", 1);
        fault(1, "1 1;", 2);
        fault(1, "0 1;", 2);
        fault(1, "1\t;", 1);
        fault(1, "1\n;", 1);
        fault(1, "\u00001;", 0);
        fault(1, "1\u00a0;", 1);
        fault(1, "1;\u0020\u0021", 3);
    }

    private static void fourMatrices() {
        tells(1, "1;-1;1;-1;", 1, -1, 1, -1);
        tells(1, "1;-1;1;-1;   ", 1, -1, 1, -1);
        fault(1, "1;-1;1;-1;1;", 10);
        fault(1, "1;-1;1;-1; -1;", 11);
        fault(1, "1;-1;1;-1;  ;", 12);
        fault(1, "1;-1;1;-1;1", 10);
        fault(1, "1;-1;1;-1;-", 10);
        fault(2, "1 0/0 1;1 0/0 1;1 0/0 1;1 0/0 1;1 0/0 1;", 32);
        fault(3, "1 0 0/0 1 0/0 0 1;1 0 0/0 1 0/0 0 1;1 0 0/0 1 0/0 0 1;1 0 0/0 1 0/0 0 1;0", 72);
    }

    // ---- the fault

    private static void firstByteThatCannotGoOn() {
        fault(2, "x", 0);
        fault(2, " x", 1);
        fault(2, "1x", 1);
        fault(2, "1 x", 2);
        fault(2, "1 0x", 3);
        fault(2, "1 0/x", 4);
        fault(2, "1 0/0 1x", 7);
        fault(2, "1 0/0 1;x", 8);
        fault(2, "1 0/0 1x0 1/", 7);
        fault(2, "x1 0/0 1x", 0);
        fault(1, "1;1;x1;", 4);
        fault(1, "1;\u00ff", 2);
        fault(1, "\u0080", 0);
        fault(1, "\u00b1;", 0);
        fault(1, blanks(119) + "x", 119);
        fault(1, blanks(118) + "1x", 119);
    }

    private static void anotherDeterminant() {
        fault(1, "0;", 1);
        fault(1, "2;", 1);
        fault(1, "-2  ;", 4);
        fault(1, "1;00;", 4);
        fault(2, "1 1/1 1;", 7);
        fault(2, "2 0/0 1;", 7);
        fault(2, "2 0/0 1 ;x", 8);
        fault(2, "1 0/0 2x", 7);
        fault(2, "1 0/0 1;1 0/0 3;", 15);
        fault(2, "1 0/0 3;1 0/0 1;", 7);
        fault(3, "1 2 3/4 5 6/7 8 9;", 17);
        fault(3, "1 0 0/0 1 0/0 0 2;", 17);
        tells(3, "1 0 0/0 1 0/0 0 -1;", 1, 0, 0, 0, 1, 0, 0, 0, -1);
    }

    private static void moreMustCome() {
        String text = "1 2/0 1;";
        for (int k = 1; k < text.length(); k++) {
            fault(2, text.substring(0, k), k);
        }
        fault(2, "1 0/0 1 ", 8);
        fault(2, "1 0/0 1;1", 9);
        fault(2, "1 0/0 1;1 0/0 -", 15);
        fault(2, "1 0/0 2", 7);
        fault(1, "-", 1);
        fault(1, "00", 2);
        fault(1, " 1   ", 5);
        fault(1, "1;1;1;1", 7);
        fault(1, blanks(119) + "-", 120);
        tells(1, "1; ", 1);
    }

    /** All texts of up to five bytes of those that mean something, and one that does not. */
    private static void allShortTexts() {
        String signs = "01-/; x";
        for (int d = 1; d <= 2; d++) {
            for (int length = 0; length <= 5; length++) {
                int texts = (int) Math.round(Math.pow(signs.length(), length));
                FiniteMatrices x = null;
                for (int n = 0; n < texts; n++) {
                    if (n % 100 == 0) {
                        x = Edges.ofSize(d);
                    }
                    StringBuilder text = new StringBuilder();
                    for (int k = 0, rest = n; k < length; k++, rest /= signs.length()) {
                        text.append(signs.charAt(rest % signs.length()));
                    }
                    due("'" + text + "'", Check.textOf(x, text.toString()), modelOf(d, text));
                }
            }
        }
    }

    private static int modelOf(int d, StringBuilder text) {
        Model m = new Model();
        m.size(d);
        for (int k = 0; k < text.length(); k++) {
            m.feed(text.charAt(k), 1);
        }
        return m.text();
    }

    // ---- draws, lots

    /** What z becomes, as a number from 0 on below 2 to the 32nd. */
    private static long next(long z) {
        return (z * 1103515245L + 12345L) & 0xffffffffL;
    }

    private static void draws() {
        FiniteMatrices x = new FiniteMatrices();
        x.lot(1);
        long third = next(next(next(1)));
        due("1 at first, then by three draws", x.seed(1), (int) third);
        int[] seeds = {0, 1, -1, Integer.MIN_VALUE, Integer.MAX_VALUE, 12345, -1103515245, 65535, 65536, 123456789};
        for (int seed : seeds) {
            x = new FiniteMatrices();
            x.seed(seed);
            x.lot(4);
            long z = seed & 0xffffffffL;
            for (int k = 0; k < 12; k++) {
                z = next(z);
            }
            due("twelve draws of " + seed, x.seed(0), (int) z);
        }
    }

    private static int highest = 0;
    private static int lowest = 0;
    private static int alike = 0;

    private static long lotOf(FiniteMatrices x, int gen, long before) {
        int d = x.many(0);
        long first = next(before);
        long second = next(first);
        long third = next(second);
        int i = (int) (first / 65536 % d);
        int j = (int) (second / 65536 % d);
        int v = (int) (third / 65536 % 5) - 2;
        int[] numbers = new int[d * d];
        for (int k = 0; k < d; k++) {
            numbers[k * d + k] = 1;
        }
        numbers[i * d + j] = i == j ? -1 : v;
        Edges.generator("d " + d + ", z " + before, x, gen, numbers);
        highest += i != j && v == 2 ? 1 : 0;
        lowest += i != j && v == -2 ? 1 : 0;
        alike += i == j ? 1 : 0;
        return third;
    }

    private static void lots() {
        for (int d = 1; d <= 3; d++) {
            for (int seed = -40; seed < 40; seed++) {
                FiniteMatrices x = Edges.ofSize(d);
                int start = seed * 53687091;
                x.seed(start);
                due("four", x.lot(4), 4);
                long z = start & 0xffffffffL;
                for (int gen = 0; gen < 4; gen++) {
                    z = lotOf(x, gen, z);
                }
                due("three draws each", x.seed(0), (int) z);
            }
        }
        Says.holds("2 came, and -2, and where row and column are alike", highest > 0 && lowest > 0 && alike > 0);
    }

    private static void lotWhereAlike() {
        FiniteMatrices one = Edges.ofSize(1);
        due("d 1: always", one.lot(4), 4);
        for (int gen = 0; gen < 4; gen++) {
            due("d 1: -1", one.at(gen, 0, 0), 999);
        }
        // The first two draws of 1 are 16838 and 38526: both leave 0 by 2.
        FiniteMatrices two = new FiniteMatrices();
        two.lot(1);
        Edges.generator("d 2: -1 there, 1 elsewhere", two, 0, -1, 0, 0, 1);
    }

    private static void lotElsewhere() {
        for (int seed = 0; seed < 60; seed++) {
            FiniteMatrices x = new FiniteMatrices();
            x.seed(seed);
            x.lot(1);
            long first = next(seed);
            long second = next(first);
            int i = (int) (first / 65536 % 2);
            int j = (int) (second / 65536 % 2);
            int v = (int) (next(second) / 65536 % 5) - 2;
            if (i == j) {
                continue;
            }
            FiniteMatrices y = new FiniteMatrices();
            y.unit(i, j, v);
            for (int k = 0; k < 4; k++) {
                due("the same as unit(" + i + ", " + j + ", " + v + ")", x.at(0, k / 2, k % 2), y.at(0, k / 2, k % 2));
            }
        }
    }

    // ---- sheets

    private static void sheets() {
        FiniteMatrices x = new FiniteMatrices();
        for (int sheet = 0; sheet <= 3; sheet++) {
            due("missing at first", x.item(sheet, 0, 0), -11);
            for (int sort = 0; sort <= 2; sort++) {
                due("40 of " + sort, x.sheet(sheet, sort, 40), 1);
                x.put(sheet, 39, 0x123456789abcdefL);
                int[] narrowed = {0x89abcdef, 0x89abcdef, (short) 0xcdef};
                due("the last of " + sort, x.item(sheet, sort, 39), narrowed[sort]);
                due("no more", x.item(sheet, sort, 40), -12);
                due("41 of " + sort, x.sheet(sheet, sort, 41), BAD);
            }
            due("no fourth sort", x.sheet(sheet, 3, 1), BAD);
        }
        due("no sheet 4", x.sheet(4, 0, 1), BAD);
        due("no sheet -1", x.sheet(-1, 0, 1), BAD);
    }

    private static void placesOutside() {
        for (int length : new int[] {0, 3, 40}) {
            FiniteMatrices x = new FiniteMatrices();
            x.sheet(0, 0, length);
            x.sheet(1, 0, 40);
            for (int i = -1; i <= length + 1; i++) {
                for (int n : new int[] {-1, 0, 1, length - i, length - i + 1, 40}) {
                    boolean outside = n < 0 || i < 0 || i + n > length || n > 40;
                    due("copy of " + n + " from " + i + " of " + length, x.copy(0, i, 1, 0, n), outside ? -12 : n);
                }
            }
        }
    }

    private static void placesFarOutside() {
        FiniteMatrices x = new FiniteMatrices();
        x.sheet(0, 0, 40);
        int[] far = {Integer.MIN_VALUE, Integer.MIN_VALUE + 1, Integer.MAX_VALUE - 1, Integer.MAX_VALUE};
        for (int i : far) {
            due("put at " + i, x.put(0, i, 1), -12);
            due("item at " + i, x.item(0, 0, i), -12);
            due("keeps at " + i, x.keeps(0, i), -12);
            due("lay at " + i, x.lay(0, 0, i), -12);
            due("take at " + i, x.take(0, i), -12);
            for (int n : far) {
                due("copy of " + n + " from " + i, x.copy(0, i, 0, 0, n), -12);
                due("copy of " + n + " to " + i, x.copy(0, 0, 0, i, n), -12);
            }
            due("copy of 0 from " + i, x.copy(0, i, 0, 0, 0), -12);
            due("copy of " + i, x.copy(0, 1, 0, 1, i), -12);
        }
    }

    private static void tapeAndText() {
        Says.test(PART, "THE TAPE takes bytes, 120 at most", TextEdgesTest::bytesOfTheTape);
        Says.test(PART, "TEXT: { MATRIX ; }, MATRIX: ROW { / ROW } (d of them), ROW: NUMBER { NUMBER } (d of them)",
                TextEdgesTest::matricesOfRowsOfNumbers);
        Says.test(PART, "NUMBER: [ - ] digits, 1 or 2, as far as it goes", TextEdgesTest::numbersAsFarAsTheyGo);
        Says.test(PART, "Blanks (32) may stand anywhere but within a NUMBER", TextEdgesTest::blanksAnywhereElse);
        Says.test(PART, "4 MATRICES at most", TextEdgesTest::fourMatrices);
        Says.test(PART, "FAULT: the place (from 0) of the first byte with which it can't go on",
                TextEdgesTest::firstByteThatCannotGoOn);
        Says.test(PART, "(of ; the MATRIX ahead of which has another determinant, too)", TextEdgesTest::anotherDeterminant);
        Says.test(PART, "or the end (how many bytes there are), if more must come", TextEdgesTest::moreMustCome);
        Says.test(PART, "the first byte with which it can't go on", TextEdgesTest::allShortTexts);
    }

    private static void drawsAndSheets() {
        Says.test(PART, "DRAWS: z (an int; 1 at first) becomes z * 1103515245 + 12345; z >>> 16 is drawn",
                TextEdgesTest::draws);
        Says.test(PART, "A GENERATOR BY LOT: i and j by what two draws leave by d; v by what a third one leaves by 5, less 2",
                TextEdgesTest::lots);
        Says.test(PART, "if i is j: 1 where row and column are alike, but -1 there", TextEdgesTest::lotWhereAlike);
        Says.test(PART, "else the same as unit(i, j, v)", TextEdgesTest::lotElsewhere);
        Says.test(PART, "SHEETS 0 to 3: rows of 0 ints, 1 longs, 2 shorts, 40 at most, or missing (at first)",
                TextEdgesTest::sheets);
        Says.test(PART, "n places of a row from i on are outside if n or i is below 0, or both together are more than it has",
                TextEdgesTest::placesOutside);
        Says.test(PART, "or both together are more than it has", TextEdgesTest::placesFarOutside);
    }

    public static void main(String[] args) {
        tapeAndText();
        drawsAndSheets();
        Says.whole(PART);
        Says.finish();
    }
}
