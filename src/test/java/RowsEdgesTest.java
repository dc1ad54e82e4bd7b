/** Promises 27 to 37, sentence by sentence, at their edges. */
public final class RowsEdgesTest {
    private static final int BAD = FiniteMatrices.BAD;
    private static final int FULL = FiniteMatrices.FULL;
    private static final int NONE = FiniteMatrices.NONE;
    private static final int MISSING = -11;
    private static final int OUTSIDE = -12;
    private static final int OTHER_SORT = -13;
    private static final int BELOW_ZERO = -14;
    private static final int INTS = 0;
    private static final int LONGS = 1;
    private static final int SHORTS = 2;

    private static void due(String call, long got, long want) {
        Says.due(call, got, want);
    }

    // ---- 27, 28: seed, lot

    private static void seedIs() {
        FiniteMatrices x = new FiniteMatrices();
        int[] values = {Integer.MIN_VALUE, Integer.MAX_VALUE, 0, -1, 1};
        int before = 1;
        for (int v : values) {
            due("seed(" + v + ")", x.seed(v), before);
            before = v;
        }
        x.lot(1);
        due("behind a lot it is another one", x.seed(0) != before ? 1 : 0, 1);
    }

    private static void lotComes() {
        for (int there = 0; there <= 4; there++) {
            for (int n = 1; n <= 4; n++) {
                FiniteMatrices x = new FiniteMatrices();
                for (int k = 0; k < there; k++) {
                    x.unit(0, 1, 50);
                }
                int room = Math.min(n, 4 - there);
                due("lot(" + n + ") with " + there, x.lot(n), room);
                due("generators", x.many(1), there + room);
                for (int k = 0; k < there; k++) {
                    due("those that were stay", x.at(k, 0, 1), 1050);
                }
                due("draws", x.seed(1) == drawn(1, 3 * room) ? 1 : 0, 1);
            }
        }
    }

    private static int drawn(int z, int draws) {
        int now = z;
        for (int k = 0; k < draws; k++) {
            now = now * 1103515245 + 12345;
        }
        return now;
    }

    private static void lotBad() {
        FiniteMatrices x = new FiniteMatrices();
        for (int off : Edges.outside(1, 4)) {
            due("lot(" + off + ")", x.lot(off), BAD);
        }
        due("none came", x.many(1), 0);
        due("nothing is drawn", x.seed(1), 1);
        due("with four, too", Edges.withFour().lot(5), BAD);
        due("with four, 0", Edges.withFour().lot(0), BAD);
    }

    // ---- 29: sheet

    private static void sheetBecomes() {
        for (int sheet = 0; sheet <= 3; sheet++) {
            for (int sort = INTS; sort <= SHORTS; sort++) {
                for (int n : new int[] {0, 1, 40}) {
                    FiniteMatrices x = new FiniteMatrices();
                    x.sheet(sheet, (sort + 1) % 3, 40);
                    x.put(sheet, 0, 9);
                    due("sheet(" + sheet + ", " + sort + ", " + n + ")", x.sheet(sheet, sort, n), 1);
                    Edges.row("all 0", x, sheet, sort, new int[n]);
                    due("another one stays missing", x.item((sheet + 1) % 4, sort, 0), MISSING);
                }
            }
        }
        FiniteMatrices x = new FiniteMatrices();
        Check.fill(x, 0, LONGS, 5, 6, 7);
        x.sheet(0, LONGS, 2);
        Edges.row("all 0 anew", x, 0, LONGS, 0, 0);
        x.sheet(0, LONGS, 3);
        Edges.row("nothing comes back", x, 0, LONGS, 0, 0, 0);
    }

    private static void sheetMissing() {
        for (int n : new int[] {Integer.MIN_VALUE, -1, 0, 40, 41, Integer.MAX_VALUE}) {
            FiniteMatrices x = new FiniteMatrices();
            Check.fill(x, 2, INTS, 5, 6);
            due("sheet(2, -1, " + n + ")", x.sheet(2, -1, n), 1);
            due("it is missing", x.item(2, INTS, 0), MISSING);
            due("missing once more", x.sheet(2, -1, n), 1);
            x.sheet(2, INTS, 2);
            Edges.row("nothing comes back", x, 2, INTS, 0, 0);
        }
    }

    private static void sheetBad() {
        FiniteMatrices x = new FiniteMatrices();
        Check.fill(x, 0, INTS, 5);
        for (int off : Edges.outside(0, 3)) {
            due("sheet " + off, x.sheet(off, INTS, 1), BAD);
            due("sheet " + off + ", missing", x.sheet(off, -1, 1), BAD);
        }
        for (int off : Edges.outside(-1, 2)) {
            due("sort " + off, x.sheet(0, off, 1), BAD);
        }
        for (int sort = INTS; sort <= SHORTS; sort++) {
            due("41", x.sheet(0, sort, 41), BAD);
            due("the greatest", x.sheet(0, sort, Integer.MAX_VALUE), BAD);
        }
        Edges.row("as it was", x, 0, INTS, 5);
    }

    private static void sheetBelowZero() {
        FiniteMatrices x = new FiniteMatrices();
        Check.fill(x, 0, INTS, 5);
        for (int sort = INTS; sort <= SHORTS; sort++) {
            due("-1", x.sheet(0, sort, -1), BELOW_ZERO);
            due("the least", x.sheet(0, sort, Integer.MIN_VALUE), BELOW_ZERO);
            due("of a missing one", x.sheet(1, sort, -1), BELOW_ZERO);
        }
        Edges.row("as it was", x, 0, INTS, 5);
        due("as it was: missing", x.item(1, INTS, 0), MISSING);
    }

    // ---- 30: put

    private static int putAndItem(int sort, long v) {
        FiniteMatrices x = new FiniteMatrices();
        x.sheet(3, sort, 3);
        due("put", x.put(3, 1, v), 1);
        due("the place ahead", x.item(3, sort, 0), 0);
        due("the place behind", x.item(3, sort, 2), 0);
        return x.item(3, sort, 1);
    }

    private static void putIs() {
        due("the greatest short", putAndItem(SHORTS, 32767), 32767);
        due("a short comes round", putAndItem(SHORTS, 32768), -32768);
        due("the least short", putAndItem(SHORTS, -32768), -32768);
        due("a short comes round below", putAndItem(SHORTS, -32769), 32767);
        due("65536 as a short", putAndItem(SHORTS, 65536), 0);
        due("the greatest int", putAndItem(INTS, 2147483647L), 2147483647);
        due("an int comes round", putAndItem(INTS, 2147483648L), -2147483648);
        due("the least int", putAndItem(INTS, -2147483648L), -2147483648);
        due("an int comes round below", putAndItem(INTS, -2147483649L), 2147483647);
        due("the least long as an int", putAndItem(INTS, Long.MIN_VALUE), 0);
        due("the greatest long", putAndItem(LONGS, Long.MAX_VALUE), -1);
        FiniteMatrices x = Edges.ofSize(1);
        Check.fill(x, 0, LONGS, 4294967297L, 1);
        due("a long is not narrowed", x.take(0, 0), BAD);
        due("1 is 1", x.take(0, 1), 0);
        Check.fill(x, 1, INTS, 4294967297L);
        due("an int is", x.take(1, 0), 1);
    }

    private static void putBad() {
        for (int off : Edges.outside(0, 3)) {
            due("sheet " + off, new FiniteMatrices().put(off, 0, 1), BAD);
        }
    }

    private static void putMissing() {
        FiniteMatrices x = new FiniteMatrices();
        for (int sheet = 0; sheet <= 3; sheet++) {
            due("at first", x.put(sheet, 0, 1), MISSING);
            x.sheet(sheet, INTS, 1);
            due("there", x.put(sheet, 0, 1), 1);
            x.sheet(sheet, -1, 1);
            due("no more", x.put(sheet, 0, 1), MISSING);
        }
    }

    private static void putOutside() {
        for (int n : new int[] {0, 1, 40}) {
            FiniteMatrices x = new FiniteMatrices();
            x.sheet(0, SHORTS, n);
            for (int off : Edges.outside(0, n - 1)) {
                due("place " + off + " of " + n, x.put(0, off, 5), OUTSIDE);
            }
            Edges.row("nothing came", x, 0, SHORTS, new int[n]);
        }
    }

    // ---- 31: item

    private static void itemIs() {
        FiniteMatrices x = new FiniteMatrices();
        Check.fill(x, 0, INTS, -1, Integer.MIN_VALUE);
        Check.fill(x, 1, LONGS, 0x7fffffff80000000L, 0x100000000L, -1L, 0x8000000000000001L);
        Check.fill(x, 2, SHORTS, -1, Short.MIN_VALUE);
        Edges.row("ints", x, 0, INTS, -1, Integer.MIN_VALUE);
        Edges.row("of longs the lowest 32 bits", x, 1, LONGS, Integer.MIN_VALUE, 0, -1, 1);
        Edges.row("shorts", x, 2, SHORTS, -1, -32768);
    }

    private static void itemBad() {
        FiniteMatrices x = new FiniteMatrices();
        x.sheet(0, INTS, 1);
        for (int off : Edges.outside(0, 3)) {
            due("sheet " + off, x.item(off, INTS, 0), BAD);
        }
        for (int off : Edges.outside(0, 2)) {
            due("sort " + off, x.item(0, off, 0), BAD);
            due("sort " + off + " of a missing one", x.item(1, off, 0), BAD);
        }
    }

    private static void itemMissing() {
        FiniteMatrices x = new FiniteMatrices();
        for (int sheet = 0; sheet <= 3; sheet++) {
            for (int sort = INTS; sort <= SHORTS; sort++) {
                due("at first", x.item(sheet, sort, 0), MISSING);
                x.sheet(sheet, sort, 1);
                due("there", x.item(sheet, sort, 0), 0);
                x.sheet(sheet, -1, 1);
                due("no more", x.item(sheet, sort, 0), MISSING);
            }
        }
    }

    private static void itemOtherSort() {
        FiniteMatrices x = new FiniteMatrices();
        for (int sort = INTS; sort <= SHORTS; sort++) {
            Check.fill(x, 0, sort, 7);
            for (int asked = INTS; asked <= SHORTS; asked++) {
                due("a row of " + sort + " taken for " + asked, x.item(0, asked, 0), asked == sort ? 7 : OTHER_SORT);
            }
        }
    }

    private static void itemOutside() {
        for (int n : new int[] {0, 1, 40}) {
            for (int sort = INTS; sort <= SHORTS; sort++) {
                FiniteMatrices x = new FiniteMatrices();
                x.sheet(1, sort, n);
                for (int off : Edges.outside(0, n - 1)) {
                    due("place " + off + " of " + n, x.item(1, sort, off), OUTSIDE);
                }
            }
        }
    }

    // ---- 32: copy

    private static FiniteMatrices withRows() {
        FiniteMatrices x = new FiniteMatrices();
        Check.fill(x, 0, INTS, 1, 2, 3, 4, 5);
        Check.fill(x, 1, INTS, 6, 7, 8);
        Check.fill(x, 2, LONGS, 9, 9, 9);
        return x;
    }

    private static void copyIs() {
        FiniteMatrices x = withRows();
        due("to another one", x.copy(0, 3, 1, 1, 2), 2);
        Edges.row("it came", x, 1, INTS, 6, 4, 5);
        Edges.row("it stays where it was", x, 0, INTS, 1, 2, 3, 4, 5);
        due("all of it", x.copy(1, 0, 0, 0, 3), 3);
        Edges.row("all came", x, 0, INTS, 6, 4, 5, 4, 5);
        x = withRows();
        due("the same, on", x.copy(0, 0, 0, 1, 4), 4);
        Edges.row("on", x, 0, INTS, 1, 1, 2, 3, 4);
        x = withRows();
        due("the same, back", x.copy(0, 1, 0, 0, 4), 4);
        Edges.row("back", x, 0, INTS, 2, 3, 4, 5, 5);
        due("the same, where it is", x.copy(0, 0, 0, 0, 5), 5);
        Edges.row("where it is", x, 0, INTS, 2, 3, 4, 5, 5);
        due("none", x.copy(0, 0, 1, 0, 0), 0);
        due("none, at the end of both", x.copy(0, 5, 1, 3, 0), 0);
        Edges.row("none came", x, 1, INTS, 6, 7, 8);
    }

    private static void copyOfSorts() {
        FiniteMatrices x = Edges.ofSize(1);
        Check.fill(x, 0, LONGS, 4294967297L, 1);
        x.sheet(1, LONGS, 40);
        due("longs", x.copy(0, 0, 1, 38, 2), 2);
        due("a whole long came", x.take(1, 38), BAD);
        due("the lowest bits of it", x.item(1, LONGS, 38), 1);
        due("and the last", x.take(1, 39), 0);
        Check.fill(x, 2, SHORTS, -32768);
        x.sheet(3, SHORTS, 1);
        due("shorts", x.copy(2, 0, 3, 0, 1), 1);
        Edges.row("a short came", x, 3, SHORTS, -32768);
    }

    private static void copyBad() {
        FiniteMatrices x = withRows();
        for (int off : Edges.outside(0, 3)) {
            due("sheet " + off, x.copy(off, 0, 0, 0, 1), BAD);
            due("other " + off, x.copy(0, 0, off, 0, 1), BAD);
            due("both " + off, x.copy(off, 0, off, 0, 1), BAD);
        }
    }

    private static void copyMissing() {
        FiniteMatrices x = withRows();
        due("the first", x.copy(3, 0, 0, 0, 1), MISSING);
        due("the other", x.copy(0, 0, 3, 0, 1), MISSING);
        due("both", x.copy(3, 0, 3, 0, 0), MISSING);
        due("even if none come", x.copy(0, 0, 3, 0, 0), MISSING);
    }

    private static void copyUnlike() {
        for (int sort = INTS; sort <= SHORTS; sort++) {
            for (int other = INTS; other <= SHORTS; other++) {
                FiniteMatrices x = new FiniteMatrices();
                x.sheet(0, sort, 2);
                x.sheet(1, other, 2);
                due("of " + sort + " to " + other, x.copy(0, 0, 1, 0, 2), sort == other ? 2 : OTHER_SORT);
                due("none of " + sort + " to " + other, x.copy(0, 0, 1, 0, 0), sort == other ? 0 : OTHER_SORT);
            }
        }
    }

    private static void copyOutside() {
        FiniteMatrices x = withRows();
        int[][] calls = {{-1, 0, 1}, {0, -1, 1}, {1, 1, -1}, {3, 0, 3}, {0, 1, 3}, {0, 0, 4}, {6, 0, 0}, {0, 4, 0}, {5, 0, 1},
            {0, 3, 1}, {Integer.MAX_VALUE, 0, 1}, {0, Integer.MAX_VALUE, 1}, {1, 1, Integer.MAX_VALUE}, {0, 0, Integer.MIN_VALUE},
            {Integer.MAX_VALUE, 0, Integer.MAX_VALUE}, {Integer.MIN_VALUE, 0, 0}, {0, Integer.MIN_VALUE, 0},
            {-1, 0, 0}, {0, -1, 0}, {0, 0, 41}};
        for (int[] c : calls) {
            due("copy(0, " + c[0] + ", 1, " + c[1] + ", " + c[2] + ")", x.copy(0, c[0], 1, c[1], c[2]), OUTSIDE);
        }
        Edges.row("nothing came", x, 1, INTS, 6, 7, 8);
        due("too many for the same", x.copy(0, 0, 0, 1, 5), OUTSIDE);
        Edges.row("nothing moved", x, 0, INTS, 1, 2, 3, 4, 5);
    }

    // ---- 33: lay

    private static void layIs() {
        FiniteMatrices x = Check.of(2, "49 -50/-50 51;-40 1/-1 0;");
        int e = x.found(11211);
        Check.fill(x, 0, INTS, 7, 7, 7, 7, 7, 7);
        due("to ints", x.lay(e, 0, 1), 4);
        Edges.row("ints", x, 0, INTS, 7, -960792040, 980200001, 980199999, -1000000000, 7);
        Check.fill(x, 1, LONGS, 7, 7, 7, 7);
        due("to longs", x.lay(e, 1, 0), 4);
        Edges.row("longs", x, 1, LONGS, -960792040, 980200001, 980199999, -1000000000);
        FiniteMatrices three = Check.of(3, "0 1 0/0 0 1/1 0 0;");
        three.sheet(0, INTS, 40);
        due("the last nine of 40", three.lay(1, 0, 31), 9);
        due("the last but two", three.item(0, INTS, 37), 1);
        FiniteMatrices one = Check.of(1, "-1;");
        one.sheet(0, LONGS, 1);
        due("one", one.lay(1, 0, 0), 1);
        Edges.row("that one", one, 0, LONGS, -1);
        FiniteMatrices shear = Check.of(2, Edges.SHEAR);
        shear.sheet(0, INTS, 4);
        due("the last of 100", shear.lay(99, 0, 0), 4);
        Edges.row("that", shear, 0, INTS, 1, 99, 0, 1);
    }

    private static void layBad() {
        FiniteMatrices x = Check.of(2, Edges.SQUARE);
        x.sheet(0, INTS, 4);
        for (int off : Edges.outside(0, 7)) {
            due("e " + off, x.lay(off, 0, 0), BAD);
        }
        for (int off : Edges.outside(0, 3)) {
            due("sheet " + off, x.lay(0, off, 0), BAD);
        }
        Edges.row("nothing came", x, 0, INTS, 0, 0, 0, 0);
        FiniteMatrices shear = Check.of(2, Edges.SHEAR);
        shear.sheet(0, INTS, 4);
        due("e 100", shear.lay(100, 0, 0), BAD);
    }

    private static void layMissing() {
        FiniteMatrices x = Check.of(2, Edges.SQUARE);
        for (int sheet = 0; sheet <= 3; sheet++) {
            due("at first", x.lay(0, sheet, 0), MISSING);
            x.sheet(sheet, INTS, 4);
            x.sheet(sheet, -1, 4);
            due("no more", x.lay(0, sheet, 0), MISSING);
        }
    }

    private static void layOtherSort() {
        FiniteMatrices x = Check.of(2, Edges.SQUARE);
        x.sheet(0, SHORTS, 4);
        due("shorts", x.lay(0, 0, 0), OTHER_SORT);
        Edges.row("nothing came", x, 0, SHORTS, 0, 0, 0, 0);
        x.sheet(0, LONGS, 4);
        due("longs", x.lay(0, 0, 0), 4);
    }

    private static void layOutside() {
        for (int d = 1; d <= 3; d++) {
            FiniteMatrices x = Edges.ofSize(d);
            x.sheet(0, INTS, d * d);
            for (int off : Edges.outside(0, 0)) {
                due("place " + off + ", d " + d, x.lay(0, 0, off), OUTSIDE);
            }
            Edges.row("nothing came", x, 0, INTS, new int[d * d]);
            due("just room", x.lay(0, 0, 0), d * d);
            x.sheet(0, INTS, d * d - 1);
            due("one too few", x.lay(0, 0, 0), OUTSIDE);
        }
    }

    // ---- 34: take

    private static void takeIs() {
        FiniteMatrices x = new FiniteMatrices();
        Check.fill(x, 0, INTS, 7, 99, 98, 98, 97);
        due("of ints", x.take(0, 1), 0);
        Edges.generator("ints", x, 0, 99, 98, 98, 97);
        Check.fill(x, 1, LONGS, -99, -98, 98, 97, 7);
        due("of longs", x.take(1, 0), 1);
        Edges.generator("longs", x, 1, -99, -98, 98, 97);
        FiniteMatrices three = Edges.ofSize(3);
        three.sheet(0, INTS, 40);
        int[] numbers = {1, 2, 3, 0, 1, 4, 0, 0, -1};
        for (int k = 0; k < 9; k++) {
            three.put(0, 31 + k, numbers[k]);
        }
        due("the last nine of 40", three.take(0, 31), 0);
        Edges.generator("nine", three, 0, numbers);
        FiniteMatrices one = Edges.ofSize(1);
        Check.fill(one, 0, LONGS, 1, -1);
        due("1", one.take(0, 0), 0);
        due("-1", one.take(0, 1), 1);
        Edges.generator("-1", one, 1, -1);
        due("numbered as they come", one.take(0, 0), 2);
    }

    private static void takeBadSheet() {
        for (int off : Edges.outside(0, 3)) {
            due("sheet " + off, new FiniteMatrices().take(off, 0), BAD);
        }
    }

    private static void takeMissing() {
        FiniteMatrices x = new FiniteMatrices();
        for (int sheet = 0; sheet <= 3; sheet++) {
            due("at first", x.take(sheet, 0), MISSING);
            Check.fill(x, sheet, INTS, 1, 0, 0, 1);
            due("there", x.take(sheet, 0), sheet);
            x.sheet(sheet, -1, 4);
            due("no more", x.take(sheet, 0), MISSING);
        }
    }

    private static void takeOtherSort() {
        FiniteMatrices x = new FiniteMatrices();
        Check.fill(x, 0, SHORTS, 1, 0, 0, 1);
        due("shorts", x.take(0, 0), OTHER_SORT);
        due("none came", x.many(1), 0);
    }

    private static void takeOutside() {
        for (int d = 1; d <= 3; d++) {
            FiniteMatrices x = Edges.ofSize(d);
            x.sheet(0, LONGS, d * d);
            x.lay(0, 0, 0);
            for (int off : Edges.outside(0, 0)) {
                due("place " + off + ", d " + d, x.take(0, off), OUTSIDE);
            }
            due("all of it", x.take(0, 0), 0);
            x.sheet(0, LONGS, d * d - 1);
            due("one too few", x.take(0, 0), OUTSIDE);
        }
    }

    private static int takeOf(int d, int sort, long... numbers) {
        FiniteMatrices x = Edges.ofSize(d);
        Check.fill(x, 0, sort, numbers);
        int answer = x.take(0, 0);
        due("generators", x.many(1), answer < 0 ? 0 : 1);
        return answer;
    }

    private static void takeNone() {
        for (int sort = INTS; sort <= LONGS; sort++) {
            due("99", takeOf(2, sort, 1, 99, 0, 1), 0);
            due("100", takeOf(2, sort, 1, 100, 0, 1), BAD);
            due("-99", takeOf(2, sort, 1, 0, -99, 1), 0);
            due("-100", takeOf(2, sort, 1, 0, -100, 1), BAD);
            due("determinant 0", takeOf(2, sort, 1, 1, 1, 1), BAD);
            due("determinant 2", takeOf(2, sort, 2, 0, 0, 1), BAD);
            due("determinant -2", takeOf(2, sort, 2, 0, 0, -1), BAD);
            due("determinant -1", takeOf(2, sort, 0, 1, 1, 0), 0);
            due("one row, 0", takeOf(1, sort, 0), BAD);
            due("one row, 2", takeOf(1, sort, 2), BAD);
            due("one row, -2", takeOf(1, sort, -2), BAD);
            due("three rows, determinant 0", takeOf(3, sort, 1, 2, 3, 4, 5, 6, 7, 8, 9), BAD);
            due("three rows, determinant 2", takeOf(3, sort, 1, 0, 0, 0, 1, 0, 0, 0, 2), BAD);
            due("the last is 100", takeOf(3, sort, 1, 0, 0, 0, 1, 0, 0, 100, 1), BAD);
        }
        due("a long that would be 1 as an int", takeOf(1, LONGS, 4294967297L), BAD);
        due("the least long", takeOf(2, LONGS, 1, Long.MIN_VALUE, 0, 1), BAD);
        due("the greatest long", takeOf(2, LONGS, 1, Long.MAX_VALUE, 0, 1), BAD);
        due("a determinant that comes round to 1", takeOf(2, LONGS, 4294967296L, -1, 1, 4294967296L), BAD);
    }

    private static void takeFull() {
        FiniteMatrices x = Edges.withFour();
        Check.fill(x, 0, INTS, 1, 0, 0, 1);
        due("a fifth", x.take(0, 0), FULL);
        due("four", x.many(1), 4);
        x.drop();
        due("room again", x.take(0, 0), 3);
    }

    // ---- 35: many

    private static void manyIs() {
        FiniteMatrices x = new FiniteMatrices();
        due("d at first", x.many(0), 2);
        due("generators at first", x.many(1), 0);
        due("bytes at first", x.many(2), 0);
        x.size(3);
        x.lot(4);
        for (int k = 0; k < 15; k++) {
            x.feed(0, 8);
        }
        due("d", x.many(0), 3);
        due("generators", x.many(1), 4);
        due("bytes", x.many(2), 120);
    }

    private static void manyBad() {
        for (int off : Edges.outside(0, 2)) {
            due("many(" + off + ")", new FiniteMatrices().many(off), BAD);
        }
    }

    // ---- 36, 37: keep, again

    private static void keepIs() {
        FiniteMatrices x = Check.of(3, Edges.SIGNED);
        x.seed(Integer.MIN_VALUE);
        due("keep()", x.keep(), 1);
        x.seed(5);
        x.drop();
        x.size(1);
        x.lot(4);
        x.again();
        due("d", x.many(0), 3);
        due("generators", x.many(1), 3);
        Edges.generator("the first", x, 0, 0, 1, 0, 1, 0, 0, 0, 0, 1);
        Edges.generator("the last", x, 2, -1, 0, 0, 0, 1, 0, 0, 0, 1);
        due("the list", x.listed(), 48);
        due("z", x.seed(0), Integer.MIN_VALUE);
    }

    private static void keepNoMore() {
        FiniteMatrices x = Check.of(2, Edges.SQUARE);
        Check.fill(x, 0, INTS, 5);
        Check.feedAll(x, "1 0");
        x.keep();
        x.put(0, 0, 6);
        x.sheet(1, INTS, 1);
        Check.feedAll(x, "/0 1;");
        x.again();
        Edges.row("sheets are not kept", x, 0, INTS, 6);
        Edges.row("nor that they are missing", x, 1, INTS, 0);
        due("nor are bytes", x.many(2), 8);
        due("all of them are there", x.text(), 1);
    }

    private static void againIs() {
        FiniteMatrices x = new FiniteMatrices();
        x.keep();
        x.lot(4);
        due("none were kept", x.again(), 0);
        due("none", x.many(1), 0);
        x.unit(0, 1, 1);
        x.keep();
        x.unit(0, 1, 2);
        x.keep();
        x.unit(0, 1, 3);
        due("the latest", x.again(), 2);
        Edges.generator("the second", x, 1, 1, 2, 0, 1);
        x.unit(1, 0, 9);
        x.drop();
        x.drop();
        x.unit(1, 0, 9);
        due("it stays", x.again(), 2);
        Edges.generator("the second, once more", x, 1, 1, 2, 0, 1);
        due("the third is gone", x.at(2, 0, 0), BAD);
        due("and once more", x.again(), 2);
        x.size(3);
        due("of another d", x.again(), 2);
        due("d", x.many(0), 2);
        x.lot(2);
        x.keep();
        due("four", x.again(), 4);
    }

    private static void againNone() {
        FiniteMatrices x = Check.of(2, Edges.SQUARE);
        x.seed(9);
        due("nothing is kept", x.again(), NONE);
        due("generators stay", x.many(1), 2);
        due("z stays", x.seed(9), 9);
        x.keep();
        due("something is", x.again(), 2);
    }

    private static void promises27To31() {
        Says.test("Promise 27", "z becomes v: what it was", RowsEdgesTest::seedIs);
        Says.test("Promise 28", "GENERATORS BY LOT come, n (1 to 4), or as many as there is room for: how many",
                RowsEdgesTest::lotComes);
        Says.test("Promise 28", "BAD", RowsEdgesTest::lotBad);
        Says.test("Promise 29", "A SHEET becomes a row of n of a sort, all 0", RowsEdgesTest::sheetBecomes);
        Says.test("Promise 29", "or is missing (sort -1, whatever n): 1", RowsEdgesTest::sheetMissing);
        Says.test("Promise 29", "BAD: sheet, sort, n above 40", RowsEdgesTest::sheetBad);
        Says.test("Promise 29", "-14", RowsEdgesTest::sheetBelowZero);
        Says.test("Promise 30", "Place i of a row becomes v (narrowed to its sort): 1", RowsEdgesTest::putIs);
        Says.test("Promise 30", "BAD", RowsEdgesTest::putBad);
        Says.test("Promise 30", "-11", RowsEdgesTest::putMissing);
        Says.test("Promise 30", "-12", RowsEdgesTest::putOutside);
        Says.test("Promise 31", "Place i of a row taken for one of a sort (of longs the lowest 32 bits)",
                RowsEdgesTest::itemIs);
        Says.test("Promise 31", "BAD: sheet, sort", RowsEdgesTest::itemBad);
        Says.test("Promise 31", "-11", RowsEdgesTest::itemMissing);
        Says.test("Promise 31", "-13", RowsEdgesTest::itemOtherSort);
        Says.test("Promise 31", "-12", RowsEdgesTest::itemOutside);
    }

    private static void promises32To37() {
        Says.test("Promise 32", "n places of a row from i on come to another one (or the same) from j on, as they all were before: n",
                RowsEdgesTest::copyIs);
        Says.test("Promise 32", "n places of a row from i on come to another one", RowsEdgesTest::copyOfSorts);
        Says.test("Promise 32", "BAD", RowsEdgesTest::copyBad);
        Says.test("Promise 32", "-11: either", RowsEdgesTest::copyMissing);
        Says.test("Promise 32", "-13: of unlike sorts", RowsEdgesTest::copyUnlike);
        Says.test("Promise 32", "-12: either", RowsEdgesTest::copyOutside);
        Says.test("Promise 33", "Numbers of an ELEMENT, row by row, come to a row of ints or longs from place i on: how many",
                RowsEdgesTest::layIs);
        Says.test("Promise 33", "BAD", RowsEdgesTest::layBad);
        Says.test("Promise 33", "-11", RowsEdgesTest::layMissing);
        Says.test("Promise 33", "-13", RowsEdgesTest::layOtherSort);
        Says.test("Promise 33", "-12", RowsEdgesTest::layOutside);
        Says.test("Promise 34", "A GENERATOR of d times d numbers of a row of ints or longs from place i on, row by row: its number",
                RowsEdgesTest::takeIs);
        Says.test("Promise 34", "BAD: sheet", RowsEdgesTest::takeBadSheet);
        Says.test("Promise 34", "-11", RowsEdgesTest::takeMissing);
        Says.test("Promise 34", "-13", RowsEdgesTest::takeOtherSort);
        Says.test("Promise 34", "-12", RowsEdgesTest::takeOutside);
        Says.test("Promise 34", "BAD: it is none", RowsEdgesTest::takeNone);
        Says.test("Promise 34", "FULL", RowsEdgesTest::takeFull);
        Says.test("Promise 35", "0 d, 1 GENERATORS, 2 bytes of THE TAPE", RowsEdgesTest::manyIs);
        Says.test("Promise 35", "BAD", RowsEdgesTest::manyBad);
        Says.test("Promise 36", "d, GENERATORS, z are kept: 1", RowsEdgesTest::keepIs);
        Says.test("Promise 36", "d, GENERATORS, z are kept", RowsEdgesTest::keepNoMore);
        Says.test("Promise 37", "They become what was kept latest (which stays): how many GENERATORS", RowsEdgesTest::againIs);
        Says.test("Promise 37", "NONE: nothing is kept", RowsEdgesTest::againNone);
    }

    public static void main(String[] args) {
        promises27To31();
        promises32To37();
        Says.wholePromises(27, 37);
        Says.finish();
    }
}
