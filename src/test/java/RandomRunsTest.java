import java.math.BigInteger;
import java.util.ArrayList;
import java.util.Collections;
import java.util.List;
import java.util.Random;
import java.util.function.LongSupplier;

/** Runs of calls by lot (always the same ones), each answer held against the Model's. */
public final class RandomRunsTest {
    private static final int RUNS = 400;
    private static final int CALLS = 250;
    private static final String[][] TEXTS = {
        {"-1;", "1;", "-1;-1;", "1;1;1;1;", "2;", "- 1;", "0;", "1/1;", "-01;1"},
        {"0 -1/1 1;", "0 1/1 0;1 0/0 -1;", "1 1/0 1;", "0-1/1 0;", "0 -1/1 -1;-1 0/0-1;", "2 1/1 1;",
            "1 99/0 -1;", "0 1/1 0;", "1 0/3 -1;1 1/0 -1;", "99 98/ 1 1;", "50 51/49 50;", "1 0/0 1",
            "5 -3/8 -5;", "1 0/0 1;1 0/0 1;1 0/0 1;1 0/0 1; 1", "-3-5/2 3;1 2/0 -1;", "1 1/1 1;"},
        {"0 1 0/0 0 1/1 0 0;-1 0 0/0 1 0/0 0 1;", "0 0 1/1 0 0/0 1 3;", "1 0 0/0 0 -1/0 1 0;0 0 1/0 1 0/-1 0 0;",
            "0 1 0/0 0 1/1 0 0;", "0 1 0/1 0 0/0 0 1;0 1 0/0 0 1/1 0 0;-1 0 0/0 1 0/0 0 1;",
            "1 5 -7/0 1 0/0 0 -1;", "-1 0 0/0 -1 0/0 0 -1;", "0 0 -1/1 0 -1/0 1 -1;", "1 0 0/0 0 -1/0 1 1;",
            "1 2 3/0 1 4/0 0 1;", "1 0 0/0 1 0/0 0 1", "1 1 0/0 1 1/0 0 1;1 0 0/1 1 0/0 1 1;"}};

    private final Random random;
    private final FiniteMatrices x = new FiniteMatrices();
    private final Model m = new Model();
    private final List<String> calls = new ArrayList<>();

    private RandomRunsTest(long seed) {
        random = new Random(seed);
    }

    private int below(int n) {
        return random.nextInt(n);
    }

    /** Mostly from least to most, at times just beyond, rarely far beyond. */
    private int near(int least, int most) {
        int how = below(40);
        if (how == 0) {
            return least - 1;
        }
        if (how == 1) {
            return most + 1;
        }
        if (how == 2) {
            int[] far = {Integer.MIN_VALUE, Integer.MAX_VALUE, -1, 1000, -1000000};
            return far[below(far.length)];
        }
        return least + below(most - least + 1);
    }

    private boolean same(String call, boolean isLong, LongSupplier got, LongSupplier want) {
        long due;
        try {
            due = want.getAsLong();
        } catch (Model.Refused refused) {
            due = isLong ? refused.why - Check.FAR : refused.why;
        }
        long answer = got.getAsLong();
        calls.add(call + " -> " + answer);
        Check.due(call, answer, due);
        return answer == due;
    }

    private boolean feedText() {
        String[] texts = TEXTS[m.d - 1];
        StringBuilder text = new StringBuilder(below(2) == 0 ? texts[below(texts.length)] : groupByLot());
        if (below(4) == 0) {
            text.setCharAt(below(text.length()), " -/;01x\u00a0".charAt(below(8)));
        }
        if (below(4) == 0) {
            text.insert(below(text.length() + 1), ' ');
        }
        for (int k = 0; k < text.length(); k += 8) {
            int n = Math.min(8, text.length() - k);
            if (!feed(Check.eight(text.toString(), k, n), n)) {
                return false;
            }
        }
        return same("text()", false, x::text, m::text);
    }

    /** Of generators that together have an end, seen from elsewhere; so their numbers are no longer small. */
    private String groupByLot() {
        BigInteger[][] there = m.one();
        BigInteger[][] back = m.one();
        for (int k = below(5); k > 0 && m.d > 1; k--) {
            int i = below(m.d);
            int j = (i + 1 + below(m.d - 1)) % m.d;
            int v = below(7) - 3;
            there = Model.times(there, m.unitOf(i, j, v));
            back = Model.times(m.unitOf(i, j, -v), back);
        }
        boolean sixths = m.d > 1 && below(3) == 0;
        StringBuilder text = new StringBuilder(" ");
        for (int k = below(4); k >= 0; k--) {
            BigInteger[][] gen = Model.times(Model.times(there, sixths ? sixth() : signed()), back);
            if (Model.within(gen, 99)) {
                tell(gen, text);
            }
        }
        return text.toString();
    }

    /** Changes of places and signs. */
    private BigInteger[][] signed() {
        List<BigInteger[]> rows = new ArrayList<>(List.of(m.one()));
        Collections.shuffle(rows, random);
        BigInteger[][] gen = rows.toArray(new BigInteger[0][]);
        for (int i = 0; i < m.d; i++) {
            gen = below(2) == 0 ? gen : Model.times(m.unitOf(i, i, -1), gen);
        }
        return gen;
    }

    /** Turns by a sixth, and mirrors, of the first two numbers; the third may change its sign. */
    private BigInteger[][] sixth() {
        int[][] all = {{0, -1, 1, 1}, {0, -1, 1, -1}, {0, 1, 1, 0}, {-1, 0, 0, -1}, {1, 1, 0, -1}};
        int[] numbers = all[below(all.length)];
        BigInteger[][] gen = m.one();
        for (int k = 0; k < 4; k++) {
            gen[k / 2][k % 2] = Model.big(numbers[k]);
        }
        return m.d == 3 && below(2) == 0 ? Model.times(m.unitOf(2, 2, -1), gen) : gen;
    }

    /** Blanks only where they must be. */
    private static void tell(BigInteger[][] gen, StringBuilder text) {
        for (int i = 0; i < gen.length; i++) {
            text.append(i > 0 ? "/" : "");
            for (int j = 0; j < gen.length; j++) {
                text.append(j > 0 && gen[i][j].signum() >= 0 ? " " : "").append(gen[i][j]);
            }
        }
        text.append(';');
    }

    private boolean feed(long eight, int n) {
        return same("feed(" + eight + ", " + n + ")", false, () -> x.feed(eight, n), () -> m.feed(eight, n));
    }

    private boolean generators(int which) {
        int a = near(0, 3);
        int b = near(0, 3);
        int i = near(0, m.d - 1);
        int j = near(0, m.d - 1);
        int v = i == j ? near(-1, 1) : below(3) == 0 ? near(-99, 99) : near(-2, 2);
        int what = near(0, 3);
        int k = below(2) == 0 ? near(0, 3) : near(1, 6);
        int size = near(1, 3);
        long eight = random.nextLong();
        int n = near(1, 8);
        return switch (which) {
            case 0 -> below(3) > 0 || same("size(" + size + ")", false, () -> x.size(size), () -> m.size(size));
            case 1 -> same("unit(" + i + ", " + j + ", " + v + ")", false, () -> x.unit(i, j, v), () -> m.unit(i, j, v));
            case 2 -> same("made(" + what + ", " + a + ", " + b + ")", false,
                    () -> x.made(what, a, b), () -> m.made(what, a, b));
            case 3 -> same("drop()", false, x::drop, m::drop);
            case 4 -> same("at(" + a + ", " + i + ", " + j + ")", false, () -> x.at(a, i, j), () -> m.at(a, i, j));
            case 5 -> same("of(" + a + ", " + what + ")", false, () -> x.of(a, what), () -> m.of(a, what));
            case 6 -> same("character(" + a + ", " + k + ")", false, () -> x.character(a, k), () -> m.character(a, k));
            case 7 -> same("factor(" + a + ", " + k + ")", false, () -> x.factor(a, k), () -> m.factor(a, k));
            case 8 -> below(4) > 0 || feed(eight, n);
            case 9 -> below(8) > 0 || same("text()", false, x::text, m::text);
            default -> feedText();
        };
    }

    private boolean theList(int which) {
        int e = below(3) == 0 ? near(0, 99) : near(0, Math.min(12, m.listed()));
        int i = near(0, m.d - 1);
        int j = near(0, m.d - 1);
        int what = near(0, 3);
        int digits = digits();
        int sheet = near(0, 3);
        int place = near(0, 9);
        return switch (which) {
            case 0 -> same("listed()", false, x::listed, m::listed);
            case 1 -> same("whole()", false, x::whole, m::whole);
            case 2 -> same("element(" + e + ", " + i + ", " + j + ")", true,
                    () -> x.element(e, i, j), () -> m.element(e, i, j));
            case 3 -> same("about(" + e + ", " + what + ")", false, () -> x.about(e, what), () -> m.about(e, what));
            case 4 -> same("witness()", false, x::witness, m::witness);
            case 5 -> same("found(" + digits + ")", false, () -> x.found(digits), () -> m.found(digits));
            case 6 -> same("middle()", false, x::middle, m::middle);
            case 7 -> same("form(" + i + ", " + j + ")", true, () -> x.form(i, j), () -> m.form(i, j));
            case 8 -> same("keeps(" + sheet + ", " + place + ")", false,
                    () -> x.keeps(sheet, place), () -> m.keeps(sheet, place));
            default -> layForm(sheet);
        };
    }

    private int digits() {
        if (below(10) == 0) {
            return near(0, 999999999);
        }
        int digits = 0;
        int length = below(10);
        for (int k = 0; k < length; k++) {
            digits = digits * 10 + 1 + below(Math.max(1, m.gens.size()));
        }
        return digits;
    }

    /** Puts the form into a row of ints, so that keeps meets tables that do keep. */
    private boolean layForm(int sheet) {
        int d = m.d;
        if (m.whole() == 0) {
            return true;
        }
        boolean fine = same("sheet(" + sheet + ", 0, " + d * d + ")", false,
                () -> x.sheet(sheet, 0, d * d), () -> m.sheet(sheet, 0, d * d));
        for (int k = 0; k < d * d && fine; k++) {
            int place = k;
            long v = m.form(k / d, k % d);
            fine = same("put(" + sheet + ", " + place + ", " + v + ")", false,
                    () -> x.put(sheet, place, v), () -> m.put(sheet, place, v));
        }
        return fine && same("keeps(" + sheet + ", 0)", false, () -> x.keeps(sheet, 0), () -> m.keeps(sheet, 0));
    }

    private boolean primesAndOrbits(int which) {
        int p = below(6) == 0 ? near(2, 7) : new int[] {2, 3, 5, 7}[below(4)];
        int most = below(2) == 0 ? 2 : 1000;
        int a = near(-most, most);
        int b = near(-most, most);
        int c = near(-most, most);
        int k = near(0, 59);
        int i = near(0, m.d - 1);
        int what = near(0, 2);
        String point = "(" + a + ", " + b + ", " + c + ")";
        return switch (which) {
            case 0 -> same("image(" + p + ")", false, () -> x.image(p), () -> m.image(p));
            case 1 -> same("faithful(" + p + ")", false, () -> x.faithful(p), () -> m.faithful(p));
            case 2 -> same("orbit" + point, false, () -> x.orbit(a, b, c), () -> m.orbit(a, b, c));
            case 3 -> same("point(" + k + ", " + i + ")", true, () -> x.point(k, i), () -> m.point(k, i));
            case 4 -> same("still" + point, false, () -> x.still(a, b, c), () -> m.still(a, b, c));
            default -> same("round(" + what + ")", false, () -> x.round(what), () -> m.round(what));
        };
    }

    private boolean rowsAndKept(int which) {
        int sheet = near(0, 3);
        int other = near(0, 3);
        int sort = near(0, 2);
        int n = below(2) == 0 ? near(0, 40) : near(8, 12);
        int i = near(0, 12);
        int j = near(0, 12);
        int e = near(0, 9);
        int v = random.nextInt();
        long wide = below(2) == 0 ? random.nextLong() : near(-2, 2);
        return switch (which) {
            case 0 -> same("seed(" + v + ")", false, () -> x.seed(v), () -> m.seed(v));
            case 1 -> same("lot(" + e % 5 + ")", false, () -> x.lot(e % 5), () -> m.lot(e % 5));
            case 2 -> sheetCall(sheet, below(10) == 0 ? -1 : sort, n);
            case 3, 4 -> same("put(" + sheet + ", " + i + ", " + wide + ")", false,
                    () -> x.put(sheet, i, wide), () -> m.put(sheet, i, wide));
            case 5 -> same("item(" + sheet + ", " + sort + ", " + i + ")", false,
                    () -> x.item(sheet, sort, i), () -> m.item(sheet, sort, i));
            case 6 -> same("copy(" + sheet + ", " + i + ", " + other + ", " + j + ", " + e + ")", false,
                    () -> x.copy(sheet, i, other, j, e), () -> m.copy(sheet, i, other, j, e));
            case 7, 8 -> same("lay(" + e + ", " + sheet + ", " + i + ")", false,
                    () -> x.lay(e, sheet, i), () -> m.lay(e, sheet, i));
            case 9, 10 -> same("take(" + sheet + ", " + i + ")", false, () -> x.take(sheet, i), () -> m.take(sheet, i));
            case 11 -> same("many(" + sort + ")", false, () -> x.many(sort), () -> m.many(sort));
            case 12 -> same("keep()", false, x::keep, m::keep);
            default -> below(3) > 0 || same("again()", false, x::again, m::again);
        };
    }

    private boolean sheetCall(int sheet, int sort, int n) {
        return same("sheet(" + sheet + ", " + sort + ", " + n + ")", false,
                () -> x.sheet(sheet, sort, n), () -> m.sheet(sheet, sort, n));
    }

    private boolean step() {
        return switch (below(4)) {
            case 0 -> generators(below(12));
            case 1 -> theList(below(10));
            case 2 -> primesAndOrbits(below(7));
            default -> rowsAndKept(below(14));
        };
    }

    private boolean run() {
        for (int k = 0; k < CALLS; k++) {
            if (!step()) {
                return false;
            }
        }
        return true;
    }

    public static void main(String[] args) {
        int runs = args.length > 0 ? Integer.parseInt(args[0]) : RUNS;
        long first = args.length > 1 ? Long.parseLong(args[1]) : 1;
        int told = 0;
        for (long seed = first; seed < first + runs && told < 3; seed++) {
            RandomRunsTest run = new RandomRunsTest(seed);
            if (!run.run()) {
                told++;
                System.out.println("run " + seed + " went:");
                run.calls.forEach(call -> System.out.println("  " + call));
            }
        }
        Check.finish();
    }
}
