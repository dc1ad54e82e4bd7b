import java.util.Arrays;

/**
 * Is a group of whole matrices finite: up to four generators with whole inverses, the list of
 * all their products as far as it is followed, and what can be told of it.
 *
 * <p>Matrices are held row by row in rows of longs, without gaps: the number at row i, column j
 * of a matrix of d rows stands at i * d + j.
 */
public final class FiniteMatrices {
    public static final int BAD = -1, FULL = -2, NONE = -3, OVER = -16;

    private static final int MISSING = -11;
    private static final int OUTSIDE = -12;
    private static final int OTHER_SORT = -13;
    private static final int BELOW_ZERO = -14;
    private static final int FAULTS_BELOW = -100;
    /** So far below itself a refusal is told where any small long may be an answer. */
    private static final long FAR_BELOW = 4000000000000000000L;

    private static final int MOST_SIZE = 3;
    private static final int CELLS = 9;
    private static final int MOST_GENERATORS = 4;
    private static final int MOST_IN_GENERATOR = 99;
    private static final long MOST_ON_THE_WAY = 1000000000L;
    private static final int MOST_IN_FORM = 1000000;
    private static final int MOST_OF_START = 1000;
    private static final int MOST_ORDER = 12;
    private static final int GREATEST_PRIME = 7;

    private static final int MOST_ELEMENTS = 100;
    private static final int MOST_IMAGES = 400;
    private static final int MOST_POINTS = 60;
    private static final int MOST_ROUNDS = 200;
    private static final int MOST_BYTES = 120;
    private static final int MOST_IN_FEED = 8;

    private static final int SHEETS = 4;
    private static final int MOST_PLACES = 40;
    private static final int NO_SORT = -1;
    private static final int INTS = 0;
    private static final int LONGS = 1;
    private static final int SHORTS = 2;

    private static final int PRODUCT = 0;
    private static final int INVERSE = 1;
    private static final int TURNED = 2;

    private final Setting now = new Setting();
    private final Setting kept = new Setting();
    private boolean anyKept = false;
    private final Tape tape = new Tape();
    private final Sheet[] sheets = new Sheet[SHEETS];

    private final Roll list = new Roll(MOST_ELEMENTS, MOST_ELEMENTS * CELLS, 256);
    private boolean listReady = false;
    private final Roll trail = new Roll(MOST_POINTS, MOST_POINTS * MOST_SIZE, 128);
    private boolean trailReady = false;
    /** Made when first needed, as most objects never list an image or a round. */
    private Roll bench = null;
    /** By the prime itself; 0 where it is not counted yet. */
    private final int[] imageCounts = new int[GREATEST_PRIME + 1];
    private int roundCount = 0;

    private final ByProduct byProduct = new ByProduct(now);
    private final ByPoint byPoint = new ByPoint(now);
    private final ByPlace byPlace = new ByPlace(trail);
    private final long[] square = new long[CELLS];
    private final long[] work = new long[CELLS];

    public FiniteMatrices() {
        for (int k = 0; k < SHEETS; k++) {
            sheets[k] = new Sheet();
        }
    }

    // ---- generators

    public int size(int v) {
        if (v < 1 || v > MOST_SIZE) {
            return BAD;
        }
        int before = now.size;
        if (v != before) {
            now.size = v;
            now.count = 0;
            forgetWhatCame();
        }
        return before;
    }

    public int unit(int i, int j, int v) {
        if (!now.isPlace(i, j) || !fitsUnit(i == j, v)) {
            return BAD;
        }
        if (now.isFull()) {
            return FULL;
        }
        return addUnit(i, j, v);
    }

    public int made(int what, int a, int b) {
        if (what < 0 || what > 3 || !now.has(a) || (what == PRODUCT && !now.has(b))) {
            return BAD;
        }
        if (now.isFull()) {
            return FULL;
        }
        makeOf(what, a, b);
        if (!Squares.isWithin(square, now.cellCount(), MOST_IN_GENERATOR)) {
            return OVER;
        }
        return addSquare();
    }

    public int drop() {
        if (now.count == 0) {
            return NONE;
        }
        now.count--;
        forgetWhatCame();
        return now.count;
    }

    public int at(int gen, int i, int j) {
        if (!now.has(gen) || !now.isPlace(i, j)) {
            return BAD;
        }
        return 1000 + (int) now.cells[gen * CELLS + i * now.size + j];
    }

    public int of(int gen, int what) {
        if (!now.has(gen) || what < 0 || what > 2) {
            return BAD;
        }
        int from = gen * CELLS;
        if (what == 0) {
            return 1000 + (int) Squares.determinant(now.cells, from, now.size, now.size);
        }
        if (what == 1) {
            return 1000 + (int) Squares.trace(now.cells, from, now.size);
        }
        return orderOf(now.cells, from);
    }

    public int character(int gen, int k) {
        if (!now.has(gen) || k < 0 || k > now.size) {
            return BAD;
        }
        return 1000000 + (int) Polynomials.characterOf(now.cells, gen * CELLS, now.size)[k];
    }

    public int factor(int gen, int k) {
        if (!now.has(gen) || !Polynomials.isFactor(k)) {
            return BAD;
        }
        long[] polynomial = Polynomials.characterOf(now.cells, gen * CELLS, now.size);
        return Polynomials.howOften(polynomial, now.size, k);
    }

    public int feed(long eight, int n) {
        if (n < 1 || n > MOST_IN_FEED) {
            return BAD;
        }
        if (tape.count + n > MOST_BYTES) {
            return FULL;
        }
        tape.receive(eight, n);
        return tape.count;
    }

    public int text() {
        boolean understood = tape.read(now.size);
        tape.count = 0;
        if (!understood) {
            return FAULTS_BELOW - tape.place;
        }
        now.count = tape.told;
        System.arraycopy(tape.cells, 0, now.cells, 0, tape.told * CELLS);
        forgetWhatCame();
        return now.count;
    }

    // ---- the list

    public int listed() {
        listAll();
        return list.count;
    }

    public int whole() {
        listAll();
        return list.closed ? 1 : 0;
    }

    public long element(int e, int i, int j) {
        listAll();
        if (!list.has(e) || !now.isPlace(i, j)) {
            return asLong(BAD);
        }
        return list.cells[list.start(e) + i * now.size + j];
    }

    public int about(int e, int what) {
        listAll();
        if (!list.has(e) || what < 0 || what > 3) {
            return BAD;
        }
        switch (what) {
            case 0:
                return list.from[e];
            case 1:
                return list.by[e];
            case 2:
                return list.steps[e];
            default:
                return orderOf(list.cells, list.start(e));
        }
    }

    public int witness() {
        listAll();
        for (int e = 0; e < list.count; e++) {
            if (orderOf(list.cells, list.start(e)) == NONE) {
                return e;
            }
        }
        return NONE;
    }

    public int found(int digits) {
        if (!areGenerators(digits)) {
            return BAD;
        }
        listAll();
        if (!multiplyOut(digits)) {
            return OVER;
        }
        int e = list.search(square);
        return e < 0 ? NONE : e;
    }

    public int middle() {
        listAll();
        int many = 0;
        for (int e = 0; e < list.count; e++) {
            if (isInMiddle(e)) {
                many++;
            }
        }
        return many;
    }

    public long form(int i, int j) {
        if (!now.isPlace(i, j)) {
            return asLong(BAD);
        }
        listAll();
        if (!list.closed) {
            return asLong(NONE);
        }
        if (!addUpForm()) {
            return asLong(OVER);
        }
        long divisor = Squares.commonDivisor(square, now.cellCount());
        return square[i * now.size + j] / Math.max(1L, divisor);
    }

    public int keeps(int sheet, int i) {
        int refusal = refusalOfTable(sheet, i, INTS);
        if (refusal != 0) {
            return refusal;
        }
        System.arraycopy(sheets[sheet].cells, i, square, 0, now.cellCount());
        if (!Squares.isWithin(square, now.cellCount(), MOST_IN_FORM)) {
            return OVER;
        }
        return isPositiveForm() && noGeneratorChangesForm() ? 1 : 0;
    }

    // ---- primes, orbits

    public int image(int p) {
        if (!isPrimeTaken(p)) {
            return BAD;
        }
        if (imageCounts[p] == 0) {
            imageCounts[p] = countImage(p);
        }
        return imageCounts[p];
    }

    public int faithful(int p) {
        if (!isPrimeTaken(p)) {
            return BAD;
        }
        listAll();
        return areApartBy(p) ? 1 : 0;
    }

    public int orbit(int x, int y, int z) {
        if (!isStart(x, y, z)) {
            return BAD;
        }
        setPoint(x, y, z);
        trail.clear(now.size, MOST_POINTS);
        trail.append(square, NONE, NONE);
        trail.spread(byPoint, now.count);
        trailReady = true;
        roundCount = 0;
        return trail.count;
    }

    public long point(int k, int i) {
        if (!trailReady || !trail.has(k) || i < 0 || i >= now.size) {
            return asLong(BAD);
        }
        return trail.cells[trail.start(k) + i];
    }

    public int round(int what) {
        if (what < 0 || what > 2) {
            return BAD;
        }
        if (!trailReady) {
            return NONE;
        }
        if (what == 0) {
            return trail.count;
        }
        if (what == 1) {
            return trail.closed ? 1 : 0;
        }
        return trail.closed ? roundOfTrail() : NONE;
    }

    public int still(int x, int y, int z) {
        if (!isStart(x, y, z)) {
            return BAD;
        }
        listAll();
        setPoint(x, y, z);
        int many = 0;
        for (int e = 0; e < list.count; e++) {
            Squares.move(list.cells, list.start(e), square, 0, work, now.size);
            if (Squares.areAlike(square, work, now.size)) {
                many++;
            }
        }
        return many;
    }

    // ---- rows, lots, what is kept

    public int seed(int v) {
        int before = now.z;
        now.z = v;
        return before;
    }

    public int lot(int n) {
        if (n < 1 || n > MOST_GENERATORS) {
            return BAD;
        }
        int come = 0;
        for (; come < n && !now.isFull(); come++) {
            int i = now.draw() % now.size;
            int j = now.draw() % now.size;
            int v = now.draw() % 5 - 2;
            addUnit(i, j, i == j ? -1 : v);
        }
        return come;
    }

    public int sheet(int sheet, int sort, int n) {
        if (!isSheet(sheet) || (sort != NO_SORT && !isSort(sort))) {
            return BAD;
        }
        if (sort == NO_SORT) {
            sheets[sheet].become(NO_SORT, 0);
            return 1;
        }
        if (n > MOST_PLACES) {
            return BAD;
        }
        if (n < 0) {
            return BELOW_ZERO;
        }
        sheets[sheet].become(sort, n);
        return 1;
    }

    public int put(int sheet, int i, long v) {
        if (!isSheet(sheet)) {
            return BAD;
        }
        Sheet row = sheets[sheet];
        if (row.isMissing()) {
            return MISSING;
        }
        if (row.isOutside(i, 1)) {
            return OUTSIDE;
        }
        row.write(i, v);
        return 1;
    }

    public int item(int sheet, int sort, int i) {
        if (!isSheet(sheet) || !isSort(sort)) {
            return BAD;
        }
        Sheet row = sheets[sheet];
        if (row.isMissing()) {
            return MISSING;
        }
        if (row.sort != sort) {
            return OTHER_SORT;
        }
        if (row.isOutside(i, 1)) {
            return OUTSIDE;
        }
        return (int) row.cells[i];
    }

    public int copy(int sheet, int i, int other, int j, int n) {
        if (!isSheet(sheet) || !isSheet(other)) {
            return BAD;
        }
        Sheet source = sheets[sheet];
        Sheet target = sheets[other];
        if (source.isMissing() || target.isMissing()) {
            return MISSING;
        }
        if (source.sort != target.sort) {
            return OTHER_SORT;
        }
        if (source.isOutside(i, n) || target.isOutside(j, n)) {
            return OUTSIDE;
        }
        System.arraycopy(source.cells, i, target.cells, j, n);
        return n;
    }

    public int lay(int e, int sheet, int i) {
        listAll();
        if (!list.has(e)) {
            return BAD;
        }
        int refusal = refusalOfTable(sheet, i, LONGS);
        if (refusal != 0) {
            return refusal;
        }
        System.arraycopy(list.cells, list.start(e), sheets[sheet].cells, i, now.cellCount());
        return now.cellCount();
    }

    public int take(int sheet, int i) {
        int refusal = refusalOfTable(sheet, i, LONGS);
        if (refusal != 0) {
            return refusal;
        }
        System.arraycopy(sheets[sheet].cells, i, square, 0, now.cellCount());
        if (!Squares.isWithin(square, now.cellCount(), MOST_IN_GENERATOR)
                || !Squares.hasWholeInverse(square, 0, now.size)) {
            return BAD;
        }
        if (now.isFull()) {
            return FULL;
        }
        return addSquare();
    }

    public int many(int what) {
        switch (what) {
            case 0:
                return now.size;
            case 1:
                return now.count;
            case 2:
                return tape.count;
            default:
                return BAD;
        }
    }

    public int keep() {
        kept.become(now);
        anyKept = true;
        return 1;
    }

    public int again() {
        if (!anyKept) {
            return NONE;
        }
        now.become(kept);
        forgetWhatCame();
        return now.count;
    }

    // ---- what the calls above are made of

    private static long asLong(int refusal) {
        return refusal - FAR_BELOW;
    }

    /** All that was worked out of the generators that were holds no more. */
    private void forgetWhatCame() {
        listReady = false;
        trailReady = false;
        Arrays.fill(imageCounts, 0);
    }

    private static boolean fitsUnit(boolean diagonal, int v) {
        if (diagonal) {
            return v == 1 || v == -1;
        }
        return v >= -MOST_IN_GENERATOR && v <= MOST_IN_GENERATOR;
    }

    private int addUnit(int i, int j, int v) {
        Squares.becomeOne(square, now.size);
        square[i * now.size + j] = v;
        return addSquare();
    }

    private int addSquare() {
        int number = now.append(square);
        forgetWhatCame();
        return number;
    }

    private void makeOf(int what, int a, int b) {
        int from = a * CELLS;
        if (what == PRODUCT) {
            Squares.multiply(now.cells, from, now.cells, b * CELLS, square, now.size);
        } else if (what == INVERSE) {
            Squares.invert(now.cells, from, square, now.size);
        } else if (what == TURNED) {
            Squares.turn(now.cells, from, square, now.size);
        } else {
            Squares.negate(now.cells, from, square, now.size);
        }
    }

    /** The order of a matrix, or NONE; a number outside stays within a long for one step. */
    private int orderOf(long[] cells, int from) {
        int n = now.cellCount();
        System.arraycopy(cells, from, square, 0, n);
        for (int k = 1; k <= MOST_ORDER; k++) {
            if (Squares.isOne(square, now.size)) {
                return k;
            }
            if (!Squares.isWithin(square, n, MOST_ON_THE_WAY)) {
                return NONE;
            }
            Squares.multiply(square, 0, cells, from, work, now.size);
            System.arraycopy(work, 0, square, 0, n);
        }
        return NONE;
    }

    private void listAll() {
        if (listReady) {
            return;
        }
        Squares.becomeOne(square, now.size);
        list.clear(now.cellCount(), MOST_ELEMENTS);
        list.append(square, NONE, NONE);
        byProduct.prime = 0;
        list.spread(byProduct, now.count);
        listReady = true;
    }

    private boolean areGenerators(int digits) {
        if (digits < 0 || digits > 999999999) {
            return false;
        }
        for (int rest = digits; rest > 0; rest /= 10) {
            if (!now.has(rest % 10 - 1)) {
                return false;
            }
        }
        return true;
    }

    /** Leaves the product in square; false if a number on the way is too great. */
    private boolean multiplyOut(int digits) {
        int n = now.cellCount();
        Squares.becomeOne(square, now.size);
        for (int ten = 100000000; ten > 0; ten /= 10) {
            int gen = digits / ten % 10 - 1;
            if (now.has(gen)) {
                Squares.multiply(square, 0, now.cells, gen * CELLS, work, now.size);
                System.arraycopy(work, 0, square, 0, n);
                if (!Squares.isWithin(square, n, MOST_ON_THE_WAY)) {
                    return false;
                }
            }
        }
        return true;
    }

    private boolean isInMiddle(int e) {
        int from = list.start(e);
        for (int gen = 0; gen < now.count; gen++) {
            Squares.multiply(list.cells, from, now.cells, gen * CELLS, square, now.size);
            Squares.multiply(now.cells, gen * CELLS, list.cells, from, work, now.size);
            if (!Squares.areAlike(square, work, now.cellCount())) {
                return false;
            }
        }
        return true;
    }

    /** Leaves the sum in square; false if one on the way is no long. */
    private boolean addUpForm() {
        int n = now.cellCount();
        Arrays.fill(square, 0L);
        for (int e = 0; e < list.count; e++) {
            Squares.multiplyTurned(list.cells, list.start(e), list.cells, list.start(e), work, now.size);
            for (int k = 0; k < n; k++) {
                long sum = square[k] + work[k];
                if (((square[k] ^ sum) & (work[k] ^ sum)) < 0) {
                    return false;
                }
                square[k] = sum;
            }
        }
        return true;
    }

    private boolean isPositiveForm() {
        Squares.turn(square, 0, work, now.size);
        if (!Squares.areAlike(square, work, now.cellCount())) {
            return false;
        }
        for (int first = 1; first <= now.size; first++) {
            if (Squares.determinant(square, 0, now.size, first) <= 0) {
                return false;
            }
        }
        return true;
    }

    private boolean noGeneratorChangesForm() {
        long[] changed = new long[CELLS];
        for (int gen = 0; gen < now.count; gen++) {
            Squares.multiplyTurned(now.cells, gen * CELLS, square, 0, work, now.size);
            Squares.multiply(work, 0, now.cells, gen * CELLS, changed, now.size);
            if (!Squares.areAlike(square, changed, now.cellCount())) {
                return false;
            }
        }
        return true;
    }

    private static boolean isPrimeTaken(int p) {
        return p == 2 || p == 3 || p == 5 || p == GREATEST_PRIME;
    }

    private Roll clearBench(int width, int most) {
        if (bench == null) {
            bench = new Roll(MOST_IMAGES, MOST_ROUNDS * MOST_POINTS, 1024);
        }
        bench.clear(width, most);
        return bench;
    }

    private int countImage(int p) {
        Roll images = clearBench(now.cellCount(), MOST_IMAGES);
        Squares.becomeOne(square, now.size);
        images.append(square, NONE, NONE);
        byProduct.prime = p;
        images.spread(byProduct, now.count);
        return images.count;
    }

    private boolean areApartBy(int p) {
        int n = now.cellCount();
        Roll rests = clearBench(n, MOST_IMAGES);
        for (int e = 0; e < list.count; e++) {
            System.arraycopy(list.cells, list.start(e), square, 0, n);
            Squares.reduce(square, n, p);
            if (rests.search(square) >= 0) {
                return false;
            }
            rests.append(square, NONE, NONE);
        }
        return true;
    }

    private static boolean isStart(int x, int y, int z) {
        return isOfStart(x) && isOfStart(y) && isOfStart(z);
    }

    private static boolean isOfStart(int number) {
        return number >= -MOST_OF_START && number <= MOST_OF_START;
    }

    /** All three are set, but only as many as there are rows are ever read. */
    private void setPoint(int x, int y, int z) {
        square[0] = x;
        square[1] = y;
        square[2] = z;
    }

    private int roundOfTrail() {
        if (roundCount == 0) {
            Roll rounds = clearBench(trail.count, MOST_ROUNDS);
            long[] places = new long[MOST_POINTS];
            for (int k = 0; k < MOST_POINTS; k++) {
                places[k] = k;
            }
            rounds.append(places, NONE, NONE);
            rounds.spread(byPlace, now.count);
            roundCount = rounds.count;
        }
        return roundCount;
    }

    private static boolean isSheet(int sheet) {
        return sheet >= 0 && sheet < SHEETS;
    }

    private static boolean isSort(int sort) {
        return sort >= INTS && sort <= SHORTS;
    }

    /** 0, or why no matrix can stand in a row from i on, the last sort that will do being told. */
    private int refusalOfTable(int sheet, int i, int lastSort) {
        if (!isSheet(sheet)) {
            return BAD;
        }
        Sheet row = sheets[sheet];
        if (row.isMissing()) {
            return MISSING;
        }
        if (row.sort > lastSort) {
            return OTHER_SORT;
        }
        return row.isOutside(i, now.cellCount()) ? OUTSIDE : 0;
    }

    /** What can be kept: how many rows matrices have, the generators, and where the draws are. */
    private static final class Setting {
        int size = 2;
        int count = 0;
        int z = 1;
        final long[] cells = new long[MOST_GENERATORS * CELLS];

        int cellCount() {
            return size * size;
        }

        boolean has(int gen) {
            return gen >= 0 && gen < count;
        }

        boolean isFull() {
            return count >= MOST_GENERATORS;
        }

        boolean isPlace(int i, int j) {
            return i >= 0 && i < size && j >= 0 && j < size;
        }

        int append(long[] matrix) {
            if (isFull()) {
                return FULL;
            }
            System.arraycopy(matrix, 0, cells, count * CELLS, CELLS);
            count++;
            return count - 1;
        }

        int draw() {
            z = z * 1103515245 + 12345;
            return z >>> 16;
        }

        void become(Setting model) {
            size = model.size;
            count = model.count;
            z = model.z;
            System.arraycopy(model.cells, 0, cells, 0, cells.length);
        }
    }

    /** Reckoning with matrices and points; what comes never lies where it comes from. */
    private static final class Squares {
        private Squares() {
        }

        static void becomeOne(long[] out, int size) {
            Arrays.fill(out, 0L);
            for (int i = 0; i < size; i++) {
                out[i * size + i] = 1;
            }
        }

        static boolean isOne(long[] m, int size) {
            for (int i = 0; i < size; i++) {
                for (int j = 0; j < size; j++) {
                    if (m[i * size + j] != (i == j ? 1 : 0)) {
                        return false;
                    }
                }
            }
            return true;
        }

        static boolean isWithin(long[] m, int n, long most) {
            for (int k = 0; k < n; k++) {
                if (m[k] < -most || m[k] > most) {
                    return false;
                }
            }
            return true;
        }

        static boolean areAlike(long[] a, long[] b, int n) {
            for (int k = 0; k < n; k++) {
                if (a[k] != b[k]) {
                    return false;
                }
            }
            return true;
        }

        /** Sums size products, each side going on by steps of its own. */
        private static long addUp(long[] a, int atA, int stepA, long[] b, int atB, int stepB, int size) {
            long sum = 0;
            for (int k = 0; k < size; k++) {
                sum += a[atA + k * stepA] * b[atB + k * stepB];
            }
            return sum;
        }

        static void multiply(long[] a, int fromA, long[] b, int fromB, long[] out, int size) {
            for (int i = 0; i < size; i++) {
                for (int j = 0; j < size; j++) {
                    out[i * size + j] = addUp(a, fromA + i * size, 1, b, fromB + j, size, size);
                }
            }
        }

        /** The first one turned, times the second. */
        static void multiplyTurned(long[] a, int fromA, long[] b, int fromB, long[] out, int size) {
            for (int i = 0; i < size; i++) {
                for (int j = 0; j < size; j++) {
                    out[i * size + j] = addUp(a, fromA + i, size, b, fromB + j, size, size);
                }
            }
        }

        static void move(long[] m, int fromM, long[] point, int fromPoint, long[] out, int size) {
            for (int i = 0; i < size; i++) {
                out[i] = addUp(m, fromM + i * size, 1, point, fromPoint, 1, size);
            }
        }

        static void turn(long[] m, int from, long[] out, int size) {
            for (int i = 0; i < size; i++) {
                for (int j = 0; j < size; j++) {
                    out[i * size + j] = m[from + j * size + i];
                }
            }
        }

        static void negate(long[] m, int from, long[] out, int size) {
            for (int k = 0; k < size * size; k++) {
                out[k] = -m[from + k];
            }
        }

        /** As the determinant is 1 or -1, to multiply by it is to divide by it. */
        static void invert(long[] m, int from, long[] out, int size) {
            long determinant = determinant(m, from, size, size);
            for (int i = 0; i < size; i++) {
                for (int j = 0; j < size; j++) {
                    out[j * size + i] = determinant * cofactor(m, from, size, i, j);
                }
            }
        }

        static long cofactor(long[] m, int from, int size, int i, int j) {
            if (size == 1) {
                return 1;
            }
            if (size == 2) {
                long opposite = m[from + (1 - i) * 2 + 1 - j];
                return i == j ? opposite : -opposite;
            }
            // Going round from row i and column j gives the sign by itself.
            int nextRow = from + (i + 1) % 3 * 3;
            int lastRow = from + (i + 2) % 3 * 3;
            int nextColumn = (j + 1) % 3;
            int lastColumn = (j + 2) % 3;
            return m[nextRow + nextColumn] * m[lastRow + lastColumn]
                    - m[nextRow + lastColumn] * m[lastRow + nextColumn];
        }

        /** Of the first rows and columns of a matrix of a size. */
        static long determinant(long[] m, int from, int size, int first) {
            if (first == 1) {
                return m[from];
            }
            if (first == 2) {
                return m[from] * m[from + size + 1] - m[from + 1] * m[from + size];
            }
            long sum = 0;
            for (int j = 0; j < 3; j++) {
                sum += m[from + j] * cofactor(m, from, 3, 0, j);
            }
            return sum;
        }

        static boolean hasWholeInverse(long[] m, int from, int size) {
            long determinant = determinant(m, from, size, size);
            return determinant == 1 || determinant == -1;
        }

        static long trace(long[] m, int from, int size) {
            long sum = 0;
            for (int i = 0; i < size; i++) {
                sum += m[from + i * size + i];
            }
            return sum;
        }

        static void reduce(long[] m, int n, int prime) {
            if (prime <= 0) {
                return;
            }
            for (int k = 0; k < n; k++) {
                m[k] = Math.floorMod(m[k], (long) prime);
            }
        }

        static long commonDivisor(long[] m, int n) {
            long divisor = 0;
            for (int k = 0; k < n; k++) {
                long rest = m[k];
                // Each two steps halve the greater one at least, so 200 are more than a long needs.
                for (int step = 0; step < 200 && rest != 0; step++) {
                    long less = divisor % rest;
                    divisor = rest;
                    rest = less;
                }
            }
            return Math.abs(divisor);
        }
    }

    /** Polynomials: at place k stands what x to the k-th is taken times. */
    private static final class Polynomials {
        private static final int[] FACTOR_DEGREE = {0, 1, 1, 2, 2, 0, 2};
        private static final int[] FACTOR_OF_ONE = {0, -1, 1, 1, 1, 0, 1};
        private static final int[] FACTOR_OF_X = {0, 1, 1, 1, 0, 0, -1};

        private Polynomials() {
        }

        static boolean isFactor(int k) {
            return k >= 0 && k < FACTOR_DEGREE.length && FACTOR_DEGREE[k] > 0;
        }

        static long[] characterOf(long[] m, int from, int size) {
            long[] polynomial = new long[MOST_SIZE + 1];
            long determinant = Squares.determinant(m, from, size, size);
            polynomial[0] = size == 2 ? determinant : -determinant;
            if (size == 3) {
                for (int i = 0; i < 3; i++) {
                    polynomial[1] += Squares.cofactor(m, from, 3, i, i);
                }
            }
            if (size > 1) {
                polynomial[size - 1] = -Squares.trace(m, from, size);
            }
            polynomial[size] = 1;
            return polynomial;
        }

        static int howOften(long[] polynomial, int degree, int k) {
            int often = 0;
            int left = degree;
            while (often < degree && takeOut(polynomial, left, k)) {
                left -= FACTOR_DEGREE[k];
                often++;
            }
            return often;
        }

        /** Leaves what is left of the polynomial, if it can be taken out; else the polynomial is spoilt. */
        private static boolean takeOut(long[] polynomial, int degree, int k) {
            int taken = FACTOR_DEGREE[k];
            if (degree < taken) {
                return false;
            }
            for (int n = degree; n >= taken; n--) {
                polynomial[n - taken] -= polynomial[n] * FACTOR_OF_ONE[k];
                if (taken == 2) {
                    polynomial[n - 1] -= polynomial[n] * FACTOR_OF_X[k];
                }
            }
            for (int n = 0; n < taken; n++) {
                if (polynomial[n] != 0) {
                    return false;
                }
            }
            for (int n = taken; n <= degree; n++) {
                polynomial[n - taken] = polynomial[n];
            }
            return true;
        }
    }

    /** One step from a row of a roll, by a generator. */
    private abstract static class Step {
        /** Leaves in out where it leads; false if a number there is too great. */
        abstract boolean go(long[] cells, int from, int gen, long[] out);
    }

    /** A matrix times the generator; by a prime, unless that is 0. */
    private static final class ByProduct extends Step {
        private final Setting setting;
        int prime = 0;

        ByProduct(Setting setting) {
            this.setting = setting;
        }

        boolean go(long[] cells, int from, int gen, long[] out) {
            Squares.multiply(cells, from, setting.cells, gen * CELLS, out, setting.size);
            if (prime > 0) {
                Squares.reduce(out, setting.cellCount(), prime);
                return true;
            }
            return Squares.isWithin(out, setting.cellCount(), MOST_ON_THE_WAY);
        }
    }

    /** The generator times a point. */
    private static final class ByPoint extends Step {
        private final Setting setting;

        ByPoint(Setting setting) {
            this.setting = setting;
        }

        boolean go(long[] cells, int from, int gen, long[] out) {
            Squares.move(setting.cells, gen * CELLS, cells, from, out, setting.size);
            return Squares.isWithin(out, setting.size, MOST_ON_THE_WAY);
        }
    }

    /** Places of a closed orbit, each put on to where the generator leads from it. */
    private static final class ByPlace extends Step {
        private final Roll trail;

        ByPlace(Roll trail) {
            this.trail = trail;
        }

        boolean go(long[] cells, int from, int gen, long[] out) {
            for (int k = 0; k < trail.count; k++) {
                int place = (int) cells[from + k];
                if (!trail.has(place)) {
                    return false;
                }
                out[k] = trail.leads[place * MOST_GENERATORS + gen];
            }
            return true;
        }
    }

    /** Rows of numbers listed in the order in which they come, none twice, with how each came. */
    private static final class Roll {
        final long[] cells;
        final int[] from;
        final int[] by;
        final int[] steps;
        /** Where each generator leads from each row: a row, or below 0 if to none. */
        final int[] leads;
        /** Rows are found again by chains, one for each slot; there are 2, 4, 8, .. slots. */
        private final int[] slots;
        private final int[] chain;
        private final long[] fresh = new long[MOST_POINTS];
        private int width = 0;
        private int most = 0;
        int count = 0;
        boolean closed = false;

        Roll(int rows, int numbers, int slotCount) {
            cells = new long[numbers];
            from = new int[rows];
            by = new int[rows];
            steps = new int[rows];
            leads = new int[rows * MOST_GENERATORS];
            slots = new int[slotCount];
            chain = new int[rows];
        }

        void clear(int newWidth, int newMost) {
            width = newWidth;
            most = newMost;
            count = 0;
            closed = false;
            Arrays.fill(slots, -1);
        }

        boolean has(int row) {
            return row >= 0 && row < count;
        }

        int start(int row) {
            return row * width;
        }

        int search(long[] numbers) {
            int row = slots[slotOf(numbers)];
            for (int n = 0; n < count && row >= 0; n++) {
                if (isRow(row, numbers)) {
                    return row;
                }
                row = chain[row];
            }
            return -1;
        }

        /** Its number, or below 0 if there is no room; it must not be there yet. */
        int append(long[] numbers, int parent, int gen) {
            if (count >= most) {
                return -1;
            }
            int row = count;
            System.arraycopy(numbers, 0, cells, start(row), width);
            from[row] = parent;
            by[row] = gen;
            steps[row] = has(parent) ? steps[parent] + 1 : 0;
            int slot = slotOf(numbers);
            chain[row] = slots[slot];
            slots[slot] = row;
            count++;
            return row;
        }

        /** Lists all that comes of the rows that are there; closed, if nothing is left out. */
        void spread(Step step, int generators) {
            closed = true;
            for (int row = 0; row < most && row < count; row++) {
                for (int gen = 0; gen < generators; gen++) {
                    int to = lead(step, row, gen);
                    leads[row * MOST_GENERATORS + gen] = to;
                    if (to < 0) {
                        closed = false;
                    }
                }
                if (!closed && count == most) {
                    return;
                }
            }
        }

        private int lead(Step step, int row, int gen) {
            if (!step.go(cells, start(row), gen, fresh)) {
                return -1;
            }
            int to = search(fresh);
            return to >= 0 ? to : append(fresh, row, gen);
        }

        private boolean isRow(int row, long[] numbers) {
            int first = start(row);
            for (int k = 0; k < width; k++) {
                if (cells[first + k] != numbers[k]) {
                    return false;
                }
            }
            return true;
        }

        private int slotOf(long[] numbers) {
            long mixed = 0;
            for (int k = 0; k < width; k++) {
                mixed = mixed * 1000003L + numbers[k];
            }
            mixed ^= mixed >>> 32;
            mixed ^= mixed >>> 16;
            return (int) mixed & (slots.length - 1);
        }
    }

    /** The bytes that are told, and the matrices that are read of them. */
    private static final class Tape {
        private final byte[] bytes = new byte[MOST_BYTES];
        int count = 0;
        /** How far it is read: behind a reading that fails, where it fails. */
        int place = 0;
        int told = 0;
        final long[] cells = new long[MOST_GENERATORS * CELLS];

        void receive(long eight, int n) {
            for (int k = 0; k < n && count < MOST_BYTES; k++) {
                bytes[count] = (byte) (eight >>> 8 * k);
                count++;
            }
        }

        /** Whether all is matrices of a size. */
        boolean read(int size) {
            place = 0;
            told = 0;
            skipBlanks();
            while (place < count) {
                if (told == MOST_GENERATORS || !readMatrix(size)) {
                    return false;
                }
                told++;
                skipBlanks();
            }
            return true;
        }

        private boolean readMatrix(int size) {
            for (int i = 0; i < size; i++) {
                if (i > 0 && !pass('/')) {
                    return false;
                }
                for (int j = 0; j < size; j++) {
                    if (!readNumber(told * CELLS + i * size + j)) {
                        return false;
                    }
                }
            }
            skipBlanks();
            return Squares.hasWholeInverse(cells, told * CELLS, size) && pass(';');
        }

        private boolean readNumber(int cell) {
            boolean negative = pass('-');
            if (!isDigit()) {
                return false;
            }
            int number = bytes[place] - '0';
            place++;
            if (isDigit()) {
                number = number * 10 + bytes[place] - '0';
                place++;
            }
            cells[cell] = negative ? -number : number;
            return true;
        }

        /** Skips blanks in any case, and the sign if it is there. */
        private boolean pass(char sign) {
            skipBlanks();
            if (place >= count || bytes[place] != sign) {
                return false;
            }
            place++;
            return true;
        }

        private boolean isDigit() {
            return place < count && bytes[place] >= '0' && bytes[place] <= '9';
        }

        private void skipBlanks() {
            while (place < count && bytes[place] == ' ') {
                place++;
            }
        }
    }

    /** A row of numbers of a sort; each is held as a long, narrowed as it comes. */
    private static final class Sheet {
        int sort = NO_SORT;
        private int length = 0;
        final long[] cells = new long[MOST_PLACES];

        boolean isMissing() {
            return sort == NO_SORT;
        }

        boolean isOutside(int i, int n) {
            return n < 0 || i < 0 || (long) i + n > length;
        }

        void become(int newSort, int newLength) {
            sort = newSort;
            length = newLength;
            Arrays.fill(cells, 0L);
        }

        void write(int i, long v) {
            if (sort == INTS) {
                cells[i] = (int) v;
            } else if (sort == SHORTS) {
                cells[i] = (short) v;
            } else {
                cells[i] = v;
            }
        }
    }
}
