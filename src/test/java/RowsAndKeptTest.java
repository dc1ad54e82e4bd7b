/** Promises 27 to 37. */
public final class RowsAndKeptTest {
    private static final int BAD = FiniteMatrices.BAD;
    private static final int FULL = FiniteMatrices.FULL;
    private static final int NONE = FiniteMatrices.NONE;

    private static void due(String call, long got, long want) {
        Check.due(call, got, want);
    }

    private static void promise27Seed() {
        FiniteMatrices x = new FiniteMatrices();
        due("27: 1 at first", x.seed(-7), 1);
        due("27: -7", x.seed(Integer.MIN_VALUE), -7);
        due("27: the least", x.seed(Integer.MAX_VALUE), Integer.MIN_VALUE);
        due("27: the greatest", x.seed(0), Integer.MAX_VALUE);
    }

    private static int next(int z) {
        return z * 1103515245 + 12345;
    }

    /** What a lot must be, held against the generator that came. */
    private static int lotIs(FiniteMatrices x, int d, int gen, int z) {
        int first = next(z);
        int second = next(first);
        int third = next(second);
        int i = (first >>> 16) % d;
        int j = (second >>> 16) % d;
        int v = i == j ? -1 : (third >>> 16) % 5 - 2;
        for (int row = 0; row < d; row++) {
            for (int column = 0; column < d; column++) {
                int due = row == i && column == j ? v : row == column ? 1 : 0;
                due("28: lot of " + z, x.at(gen, row, column), 1000 + due);
            }
        }
        return third;
    }

    private static void promise28Lot() {
        for (int d = 1; d <= 3; d++) {
            for (int seed = -20; seed < 20; seed++) {
                FiniteMatrices x = new FiniteMatrices();
                x.size(d);
                x.seed(seed * 99991);
                due("28: three come", x.lot(3), 3);
                int z = seed * 99991;
                for (int gen = 0; gen < 3; gen++) {
                    z = lotIs(x, d, gen, z);
                }
                due("28: three draws each", x.seed(z), z);
                due("28: room for one", x.lot(4), 1);
                z = lotIs(x, d, 3, z);
                due("28: room for none", x.lot(1), 0);
                due("28: no draw then", x.seed(z), z);
            }
        }
        FiniteMatrices x = new FiniteMatrices();
        due("28: 0", x.lot(0), BAD);
        due("28: 5", x.lot(5), BAD);
        due("28: below 0", x.lot(-1), BAD);
        due("28: nothing drawn", x.seed(1), 1);
        due("28: 4", x.lot(4), 4);
        due("28: BAD though there is no room", x.lot(5), BAD);
    }

    private static void promise29Sheet() {
        FiniteMatrices x = new FiniteMatrices();
        due("29: sheet above", x.sheet(4, 0, 1), BAD);
        due("29: sheet below", x.sheet(-1, 0, 1), BAD);
        due("29: sort above", x.sheet(0, 3, 1), BAD);
        due("29: sort below", x.sheet(0, -2, 1), BAD);
        due("29: n above 40", x.sheet(0, 0, 41), BAD);
        due("29: n below 0", x.sheet(0, 0, -1), -14);
        due("29: BAD sheet ahead of -14", x.sheet(4, 0, -1), BAD);
        due("29: BAD sort ahead of -14", x.sheet(0, 3, -1), BAD);
        due("29: still missing", x.item(0, 0, 0), -11);
        due("29: n 0", x.sheet(0, 0, 0), 1);
        due("29: there, but no place in it", x.item(0, 0, 0), -12);
        due("29: n 40", x.sheet(3, 2, 40), 1);
        due("29: the last is 0", x.item(3, 2, 39), 0);
        x.put(3, 39, 5);
        due("29: n above 40 changes nothing", x.sheet(3, 2, 41), BAD);
        due("29: n below 0 changes nothing", x.sheet(3, 2, Integer.MIN_VALUE), -14);
        due("29: as it was", x.item(3, 2, 39), 5);
        due("29: anew", x.sheet(3, 2, 40), 1);
        due("29: 0 anew", x.item(3, 2, 39), 0);
        due("29: missing, whatever n", x.sheet(3, -1, 41), 1);
        due("29: missing", x.item(3, 2, 0), -11);
        due("29: missing, n below 0", x.sheet(0, -1, -1), 1);
        due("29: missing too", x.item(0, 0, 0), -11);
        due("29: missing, but no such sheet", x.sheet(4, -1, 0), BAD);
    }

    private static void promise30Put() {
        FiniteMatrices x = new FiniteMatrices();
        due("30: sheet above", x.put(4, 0, 1), BAD);
        due("30: sheet below", x.put(-1, 0, 1), BAD);
        due("30: missing", x.put(0, 0, 1), -11);
        due("30: missing ahead of outside", x.put(0, 99, 1), -11);
        x.sheet(0, 0, 2);
        x.sheet(1, 1, 2);
        x.sheet(2, 2, 2);
        due("30: outside", x.put(0, 2, 1), -12);
        due("30: below 0", x.put(0, -1, 1), -12);
        due("30: far outside", x.put(0, Integer.MAX_VALUE, 1), -12);
        long wide = 0x1122334487659abcL;
        due("30: to ints", x.put(0, 1, wide), 1);
        due("30: to longs", x.put(1, 1, wide), 1);
        due("30: to shorts", x.put(2, 1, wide), 1);
        due("30: an int", x.item(0, 0, 1), 0x87659abc);
        due("30: of a long the lowest", x.item(1, 1, 1), 0x87659abc);
        due("30: a short", x.item(2, 2, 1), (short) 0x9abc);
        due("30: the other place", x.item(0, 0, 0), 0);
    }

    private static void promise31Item() {
        FiniteMatrices x = new FiniteMatrices();
        due("31: sheet above", x.item(4, 0, 0), BAD);
        due("31: sheet below", x.item(-1, 0, 0), BAD);
        due("31: sort above", x.item(0, 3, 0), BAD);
        due("31: sort below", x.item(0, -1, 0), BAD);
        due("31: missing", x.item(0, 1, 0), -11);
        for (int sort = 0; sort < 3; sort++) {
            x.sheet(sort, sort, 3);
            x.put(sort, 2, -5);
            for (int asked = 0; asked < 3; asked++) {
                due("31: " + sort + " taken for " + asked, x.item(sort, asked, 2), asked == sort ? -5 : -13);
                due("31: outside of " + sort + " taken for " + asked, x.item(sort, asked, 3), asked == sort ? -12 : -13);
            }
            due("31: below 0", x.item(sort, sort, -1), -12);
            due("31: sort is looked at first", x.item(sort, 3, -1), BAD);
        }
        x.put(1, 0, 0x500000007L);
        due("31: the lowest 32 bits", x.item(1, 1, 0), 7);
    }

    private static void row(String what, FiniteMatrices x, int sheet, int sort, int... numbers) {
        for (int k = 0; k < numbers.length; k++) {
            due(what + ", place " + k, x.item(sheet, sort, k), numbers[k]);
        }
    }

    private static void promise32Copy() {
        FiniteMatrices x = new FiniteMatrices();
        Check.fill(x, 0, 0, 1, 2, 3, 4, 5);
        Check.fill(x, 1, 0, 0, 0, 0);
        Check.fill(x, 2, 1, 7, 7);
        due("32: sheet above", x.copy(4, 0, 0, 0, 1), BAD);
        due("32: sheet below", x.copy(-1, 0, 0, 0, 1), BAD);
        due("32: other above", x.copy(0, 0, 4, 0, 1), BAD);
        due("32: other below", x.copy(3, 0, -1, 0, 1), BAD);
        due("32: sheet missing", x.copy(3, 0, 0, 0, 1), -11);
        due("32: other missing", x.copy(0, 0, 3, 0, 1), -11);
        due("32: unlike sorts", x.copy(0, 0, 2, 0, 1), -13);
        due("32: unlike sorts ahead of outside", x.copy(0, 9, 2, 9, 9), -13);
        due("32: i below", x.copy(0, -1, 1, 0, 1), -12);
        due("32: j below", x.copy(0, 0, 1, -1, 1), -12);
        due("32: n below", x.copy(0, 1, 1, 1, -1), -12);
        due("32: too many of it", x.copy(0, 3, 1, 0, 3), -12);
        due("32: too many for the other", x.copy(0, 0, 1, 1, 3), -12);
        due("32: far outside", x.copy(0, Integer.MAX_VALUE, 1, 0, Integer.MAX_VALUE), -12);
        due("32: far outside the other", x.copy(0, 0, 1, Integer.MAX_VALUE, 1), -12);
        row("32: as it was", x, 1, 0, 0, 0, 0);
        due("32: none, at the end", x.copy(0, 5, 1, 3, 0), 0);
        due("32: none, beyond the end", x.copy(0, 6, 1, 3, 0), -12);
        due("32: two", x.copy(0, 1, 1, 1, 2), 2);
        row("32: two came", x, 1, 0, 0, 2, 3);
        due("32: within, on", x.copy(0, 0, 0, 1, 4), 4);
        row("32: as they all were", x, 0, 0, 1, 1, 2, 3, 4);
        due("32: within, back", x.copy(0, 1, 0, 0, 4), 4);
        row("32: as they all were, back", x, 0, 0, 1, 2, 3, 4, 4);
        x.sheet(3, 1, 2);
        x.put(2, 0, 0x100000002L);
        due("32: longs", x.copy(2, 0, 3, 0, 2), 2);
        row("32: longs came", x, 3, 1, 2, 7);
    }

    private static void promise33Lay() {
        FiniteMatrices x = Check.of(2, "1 1/0 1;");
        due("33: missing", x.lay(3, 0, 0), -11);
        due("33: e above", x.lay(100, 0, 0), BAD);
        due("33: e below", x.lay(-1, 0, 0), BAD);
        due("33: sheet above", x.lay(0, 4, 0), BAD);
        due("33: sheet below", x.lay(0, -1, 0), BAD);
        x.sheet(0, 2, 4);
        due("33: shorts", x.lay(3, 0, 0), -13);
        due("33: shorts ahead of outside", x.lay(3, 0, 9), -13);
        x.sheet(0, 0, 6);
        due("33: outside", x.lay(3, 0, 3), -12);
        due("33: below 0", x.lay(3, 0, -1), -12);
        due("33: far outside", x.lay(3, 0, Integer.MAX_VALUE), -12);
        due("33: to ints", x.lay(3, 0, 2), 4);
        row("33: ints", x, 0, 0, 0, 0, 1, 3, 0, 1);
        x.sheet(1, 1, 4);
        due("33: to longs", x.lay(99, 1, 0), 4);
        row("33: longs", x, 1, 1, 1, 99, 0, 1);
        FiniteMatrices three = Check.of(3, "0 1 0/0 0 1/1 0 0;");
        three.sheet(0, 0, 40);
        due("33: nine", three.lay(1, 0, 31), 9);
        due("33: the last of them", three.item(0, 0, 37), 1);
        due("33: e above three", three.lay(3, 0, 0), BAD);
        FiniteMatrices one = Check.of(1, "-1;");
        one.sheet(0, 0, 1);
        due("33: one", one.lay(1, 0, 0), 1);
        due("33: that one", one.item(0, 0, 0), -1);
    }

    private static void promise34Take() {
        FiniteMatrices x = new FiniteMatrices();
        due("34: sheet above", x.take(4, 0), BAD);
        due("34: sheet below", x.take(-1, 0), BAD);
        due("34: missing", x.take(0, 0), -11);
        Check.fill(x, 0, 2, 1, 0, 0, 1);
        due("34: shorts", x.take(0, 0), -13);
        due("34: shorts ahead of outside", x.take(0, 1), -13);
        Check.fill(x, 0, 0, 9, 99, 98, 1, 1, 100, 99, 1, 1);
        due("34: outside", x.take(0, 6), -12);
        due("34: below 0", x.take(0, -1), -12);
        due("34: far outside", x.take(0, Integer.MAX_VALUE), -12);
        due("34: another determinant", x.take(0, 0), BAD);
        due("34: 100", x.take(0, 5), BAD);
        due("34: none came", x.many(1), 0);
        due("34: 99", x.take(0, 1), 0);
        due("34: row by row", x.at(0, 0, 1), 1098);
        due("34: row by row, too", x.at(0, 1, 0), 1001);
        Check.fill(x, 1, 1, -99, 98, 1, -1, 0x100000001L, 0, 0, 1, Long.MIN_VALUE, 0, 0, 1);
        due("34: of longs", x.take(1, 0), 1);
        due("34: -99", x.at(1, 0, 0), 901);
        due("34: a long that is no 1", x.take(1, 4), BAD);
        due("34: the least long", x.take(1, 8), BAD);
        due("34: a third", x.take(1, 0), 2);
        due("34: a fourth", x.take(1, 0), 3);
        due("34: FULL", x.take(1, 0), FULL);
        due("34: BAD ahead of FULL", x.take(1, 4), BAD);
        due("34: -12 ahead of FULL", x.take(1, 9), -12);
        FiniteMatrices three = new FiniteMatrices();
        three.size(3);
        Check.fill(three, 0, 0, 0, 1, 0, 0, 0, 1, -1, 0, 0);
        due("34: three rows", three.take(0, 0), 0);
        due("34: order", three.of(0, 2), 6);
        FiniteMatrices one = new FiniteMatrices();
        one.size(1);
        Check.fill(one, 0, 1, 2, -1, 0);
        due("34: 2 has no whole inverse", one.take(0, 0), BAD);
        due("34: -1 has", one.take(0, 1), 0);
        due("34: 0 has none", one.take(0, 2), BAD);
    }

    private static void promise35Many() {
        FiniteMatrices x = new FiniteMatrices();
        x.size(3);
        x.lot(2);
        x.feed(0, 5);
        due("35: d", x.many(0), 3);
        due("35: generators", x.many(1), 2);
        due("35: bytes", x.many(2), 5);
        due("35: what above", x.many(3), BAD);
        due("35: what below", x.many(-1), BAD);
    }

    private static void promise36And37KeepAgain() {
        FiniteMatrices x = Check.of(2, "0 1/1 0;1 0/0 -1;");
        due("37: nothing kept", x.again(), NONE);
        due("37: nothing changed", x.many(1), 2);
        x.seed(77);
        due("36: keep", x.keep(), 1);
        x.size(3);
        x.seed(5);
        x.lot(4);
        x.feed(32, 1);
        x.sheet(0, 0, 3);
        due("37: again", x.again(), 2);
        due("37: d", x.many(0), 2);
        due("37: the list", x.listed(), 8);
        due("37: a number of it", x.at(1, 1, 1), 999);
        due("37: z", x.seed(78), 77);
        due("37: the tape is not kept", x.many(2), 1);
        due("37: nor are sheets", x.item(0, 0, 2), 0);
        x.drop();
        x.unit(0, 1, 9);
        due("37: what is kept stays", x.again(), 2);
        due("37: as it was", x.at(1, 1, 1), 999);
        due("37: z stays", x.seed(1), 77);
        x.drop();
        due("36: kept latest", x.keep(), 1);
        x.drop();
        due("37: the latest", x.again(), 1);
        due("37: its z", x.seed(1), 1);
        FiniteMatrices fresh = new FiniteMatrices();
        due("36: nothing is something", fresh.keep(), 1);
        fresh.lot(4);
        due("37: no generators", fresh.again(), 0);
        due("37: the list of none", fresh.listed(), 1);
    }

    public static void main(String[] args) {
        promise27Seed();
        promise28Lot();
        promise29Sheet();
        promise30Put();
        promise31Item();
        promise32Copy();
        promise33Lay();
        promise34Take();
        promise35Many();
        promise36And37KeepAgain();
        Check.finish();
    }
}
