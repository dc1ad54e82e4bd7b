import java.math.BigInteger;
import java.util.ArrayList;
import java.util.Arrays;
import java.util.HashMap;
import java.util.HashSet;
import java.util.List;
import java.util.Map;
import java.util.function.BiFunction;

/**
 * The document said a second time, as plainly as it goes: numbers without a bound, everything
 * worked out anew at each call. Random runs are held against it.
 */
final class Model {
    static final BigInteger BILLION = BigInteger.valueOf(1000000000L);

    int d = 2;
    List<BigInteger[][]> gens = new ArrayList<>();
    int z = 1;
    int keptD;
    List<BigInteger[][]> keptGens = null;
    int keptZ;
    List<Byte> tape = new ArrayList<>();
    long[][] sheets = new long[4][];
    int[] sorts = {-1, -1, -1, -1};
    List<List<BigInteger>> orbit = null;

    /** A refusal on its way out. */
    static final class Refused extends RuntimeException {
        final int why;

        Refused(int why) {
            this.why = why;
        }
    }

    static void refuse(boolean so, int why) {
        if (so) {
            throw new Refused(why);
        }
    }

    static BigInteger big(long v) {
        return BigInteger.valueOf(v);
    }

    static boolean in(BigInteger v, long most) {
        return v.abs().compareTo(big(most)) <= 0;
    }

    static boolean in(long v, long least, long most) {
        return v >= least && v <= most;
    }

    BigInteger[][] one() {
        BigInteger[][] m = new BigInteger[d][d];
        for (int i = 0; i < d; i++) {
            for (int j = 0; j < d; j++) {
                m[i][j] = big(i == j ? 1 : 0);
            }
        }
        return m;
    }

    static BigInteger[][] times(BigInteger[][] a, BigInteger[][] b) {
        BigInteger[][] m = new BigInteger[a.length][b[0].length];
        for (int i = 0; i < m.length; i++) {
            for (int j = 0; j < m[0].length; j++) {
                m[i][j] = BigInteger.ZERO;
                for (int k = 0; k < b.length; k++) {
                    m[i][j] = m[i][j].add(a[i][k].multiply(b[k][j]));
                }
            }
        }
        return m;
    }

    static BigInteger[][] turned(BigInteger[][] a) {
        BigInteger[][] m = new BigInteger[a.length][a.length];
        for (int i = 0; i < a.length; i++) {
            for (int j = 0; j < a.length; j++) {
                m[j][i] = a[i][j];
            }
        }
        return m;
    }

    /** By the first column, over and over. */
    static BigInteger det(BigInteger[][] a) {
        if (a.length == 0) {
            return BigInteger.ONE;
        }
        BigInteger sum = BigInteger.ZERO;
        for (int i = 0; i < a.length; i++) {
            BigInteger part = a[i][0].multiply(det(without(a, i, 0)));
            sum = i % 2 == 0 ? sum.add(part) : sum.subtract(part);
        }
        return sum;
    }

    static BigInteger[][] without(BigInteger[][] a, int row, int column) {
        BigInteger[][] m = new BigInteger[a.length - 1][a.length - 1];
        for (int i = 0; i < m.length; i++) {
            for (int j = 0; j < m.length; j++) {
                m[i][j] = a[i < row ? i : i + 1][j < column ? j : j + 1];
            }
        }
        return m;
    }

    static List<BigInteger> flat(BigInteger[][] a) {
        List<BigInteger> all = new ArrayList<>();
        for (BigInteger[] row : a) {
            all.addAll(Arrays.asList(row));
        }
        return all;
    }

    static boolean within(BigInteger[][] a, long most) {
        return flat(a).stream().allMatch(v -> in(v, most));
    }

    static BigInteger[][] by(BigInteger[][] a, int p) {
        BigInteger[][] m = new BigInteger[a.length][a[0].length];
        for (int i = 0; i < a.length; i++) {
            for (int j = 0; j < a[0].length; j++) {
                m[i][j] = a[i][j].mod(big(p));
            }
        }
        return m;
    }

    /** A list like THE LIST. */
    static final class Listing<T> {
        final List<T> all = new ArrayList<>();
        final List<Integer> from = new ArrayList<>();
        final List<Integer> by = new ArrayList<>();
        boolean closed;
    }

    static <T> Listing<T> spread(T first, int gens, BiFunction<T, Integer, T> step, int most) {
        Listing<T> l = new Listing<>();
        Map<T, Integer> known = new HashMap<>();
        l.all.add(first);
        l.from.add(-3);
        l.by.add(-3);
        known.put(first, 0);
        for (int e = 0; e < l.all.size() && l.all.size() < most; e++) {
            for (int g = 0; g < gens && l.all.size() < most; g++) {
                T to = step.apply(l.all.get(e), g);
                if (to != null && !known.containsKey(to)) {
                    known.put(to, l.all.size());
                    l.all.add(to);
                    l.from.add(e);
                    l.by.add(g);
                }
            }
        }
        l.closed = true;
        for (T e : l.all) {
            for (int g = 0; g < gens; g++) {
                T to = step.apply(e, g);
                l.closed &= to != null && known.containsKey(to);
            }
        }
        return l;
    }

    BigInteger[][] square(List<BigInteger> flat) {
        BigInteger[][] m = new BigInteger[d][d];
        for (int k = 0; k < d * d; k++) {
            m[k / d][k % d] = flat.get(k);
        }
        return m;
    }

    Listing<List<BigInteger>> list() {
        return spread(flat(one()), gens.size(), (e, g) -> {
            BigInteger[][] m = times(square(e), gens.get(g));
            return within(m, 1000000000L) ? flat(m) : null;
        }, 100);
    }

    int order(BigInteger[][] m) {
        BigInteger[][] power = m;
        for (int k = 1; k <= 12; k++) {
            if (Arrays.deepEquals(power, one())) {
                return k;
            }
            if (!within(power, 1000000000L)) {
                return -3;
            }
            power = times(power, m);
        }
        return -3;
    }

    void others() {
        orbit = null;
    }

    int add(BigInteger[][] m) {
        gens.add(m);
        others();
        return gens.size() - 1;
    }

    BigInteger[][] gen(int g) {
        refuse(!in(g, 0, gens.size() - 1), -1);
        return gens.get(g);
    }

    int size(int v) {
        refuse(!in(v, 1, 3), -1);
        int was = d;
        if (v != d) {
            d = v;
            gens.clear();
            others();
        }
        return was;
    }

    BigInteger[][] unitOf(int i, int j, int v) {
        BigInteger[][] m = one();
        m[i][j] = big(v);
        return m;
    }

    int unit(int i, int j, int v) {
        refuse(!in(i, 0, d - 1) || !in(j, 0, d - 1), -1);
        refuse(i == j ? v != 1 && v != -1 : !in(v, -99, 99), -1);
        refuse(gens.size() == 4, -2);
        return add(unitOf(i, j, v));
    }

    int made(int what, int a, int b) {
        refuse(!in(what, 0, 3), -1);
        BigInteger[][] m = gen(a);
        BigInteger[][] second = what == 0 ? gen(b) : null;
        refuse(gens.size() == 4, -2);
        BigInteger[][] r = new BigInteger[d][d];
        for (int i = 0; i < d; i++) {
            for (int j = 0; j < d; j++) {
                BigInteger minor = det(without(m, j, i)).multiply(det(m));
                r[i][j] = what == 3 ? m[i][j].negate() : (i + j) % 2 == 0 ? minor : minor.negate();
            }
        }
        if (what == 0) {
            r = times(m, second);
        }
        if (what == 2) {
            r = turned(m);
        }
        refuse(!within(r, 99), -16);
        return add(r);
    }

    int drop() {
        refuse(gens.isEmpty(), -3);
        gens.remove(gens.size() - 1);
        others();
        return gens.size();
    }

    int at(int g, int i, int j) {
        refuse(!in(i, 0, d - 1) || !in(j, 0, d - 1), -1);
        return 1000 + gen(g)[i][j].intValueExact();
    }

    int of(int g, int what) {
        refuse(!in(what, 0, 2), -1);
        BigInteger[][] m = gen(g);
        if (what == 0) {
            return 1000 + det(m).intValueExact();
        }
        if (what == 1) {
            BigInteger sum = BigInteger.ZERO;
            for (int i = 0; i < d; i++) {
                sum = sum.add(m[i][i]);
            }
            return 1000 + sum.intValueExact();
        }
        return order(m);
    }

    /** The determinant of x less the matrix at 0, 1, .. d, and the polynomial through these. */
    List<BigInteger> character(BigInteger[][] m) {
        BigInteger[] values = new BigInteger[d + 1];
        for (int x = 0; x <= d; x++) {
            BigInteger[][] less = new BigInteger[d][d];
            for (int i = 0; i < d; i++) {
                for (int j = 0; j < d; j++) {
                    less[i][j] = big(i == j ? x : 0).subtract(m[i][j]);
                }
            }
            values[x] = det(less);
        }
        // Newton's way: differences, then (x)(x - 1).. added up.
        List<BigInteger> sum = new ArrayList<>(List.of(BigInteger.ZERO));
        List<BigInteger> falling = List.of(BigInteger.ONE);
        BigInteger factorial = BigInteger.ONE;
        for (int k = 0; k <= d; k++) {
            sum = plus(sum, scaled(falling, values[0].divide(factorial)));
            for (int x = 0; x + k < d; x++) {
                values[x] = values[x + 1].subtract(values[x]);
            }
            falling = product(falling, List.of(big(-k), BigInteger.ONE));
            factorial = factorial.multiply(big(k + 1));
        }
        return sum;
    }

    static List<BigInteger> plus(List<BigInteger> a, List<BigInteger> b) {
        List<BigInteger> sum = new ArrayList<>();
        for (int k = 0; k < Math.max(a.size(), b.size()); k++) {
            BigInteger left = k < a.size() ? a.get(k) : BigInteger.ZERO;
            sum.add(left.add(k < b.size() ? b.get(k) : BigInteger.ZERO));
        }
        return sum;
    }

    static List<BigInteger> scaled(List<BigInteger> a, BigInteger by) {
        return a.stream().map(v -> v.multiply(by)).toList();
    }

    static List<BigInteger> product(List<BigInteger> a, List<BigInteger> b) {
        List<BigInteger> sum = new ArrayList<>();
        for (int k = 0; k < b.size(); k++) {
            List<BigInteger> moved = new ArrayList<>();
            for (int n = 0; n < k; n++) {
                moved.add(BigInteger.ZERO);
            }
            moved.addAll(scaled(a, b.get(k)));
            sum = plus(sum, moved);
        }
        return sum;
    }

    int character(int g, int k) {
        BigInteger[][] m = gen(g);
        refuse(!in(k, 0, d), -1);
        return 1000000 + character(m).get(k).intValueExact();
    }

    int factor(int g, int k) {
        BigInteger[][] m = gen(g);
        List<BigInteger> divisor = switch (k) {
            case 1 -> List.of(big(-1), big(1));
            case 2 -> List.of(big(1), big(1));
            case 3 -> List.of(big(1), big(1), big(1));
            case 4 -> List.of(big(1), big(0), big(1));
            case 6 -> List.of(big(1), big(-1), big(1));
            default -> throw new Refused(-1);
        };
        List<BigInteger> left = character(m);
        int often = 0;
        while (true) {
            List<BigInteger> quotient = quotient(left, divisor);
            if (quotient == null) {
                return often;
            }
            often++;
            left = quotient;
        }
    }

    static List<BigInteger> quotient(List<BigInteger> a, List<BigInteger> by) {
        List<BigInteger> rest = new ArrayList<>(a);
        List<BigInteger> quotient = new ArrayList<>();
        while (rest.size() >= by.size()) {
            BigInteger lead = rest.get(rest.size() - 1);
            quotient.add(0, lead);
            for (int k = 0; k < by.size(); k++) {
                int place = rest.size() - by.size() + k;
                rest.set(place, rest.get(place).subtract(lead.multiply(by.get(k))));
            }
            rest.remove(rest.size() - 1);
        }
        boolean clean = rest.stream().allMatch(v -> v.signum() == 0);
        return clean && !quotient.isEmpty() ? quotient : null;
    }

    int feed(long eight, int n) {
        refuse(!in(n, 1, 8), -1);
        refuse(tape.size() + n > 120, -2);
        for (int k = 0; k < n; k++) {
            tape.add((byte) (eight >> 8 * k));
        }
        return tape.size();
    }

    /** A machine that takes byte after byte, and knows at each which ones it could take. */
    int text() {
        byte[] bytes = new byte[tape.size()];
        for (int k = 0; k < bytes.length; k++) {
            bytes[k] = tape.get(k);
        }
        tape.clear();
        List<BigInteger[][]> told = new ArrayList<>();
        List<BigInteger> row = new ArrayList<>();
        List<List<BigInteger>> rows = new ArrayList<>();
        String number = "";
        for (int place = 0; place <= bytes.length; place++) {
            char c = place < bytes.length ? (char) (bytes[place] & 255) : 0;
            boolean digit = c >= '0' && c <= '9';
            boolean more = digit && !number.isEmpty() && number.replace("-", "").length() < 2;
            if (more) {
                number += c;
                continue;
            }
            if (number.equals("-")) {
                return -100 - place;
            }
            if (!number.isEmpty()) {
                row.add(new BigInteger(number));
                number = "";
            }
            if (place == bytes.length) {
                break;
            }
            boolean rowFull = row.size() == d;
            boolean lastRow = rows.size() == d - 1;
            if (c == ' ') {
                continue;
            }
            if ((digit || c == '-') && !rowFull && told.size() < 4) {
                number += c;
            } else if (c == '/' && rowFull && !lastRow) {
                rows.add(row);
                row = new ArrayList<>();
            } else if (c == ';' && rowFull && lastRow) {
                rows.add(row);
                List<BigInteger> all = new ArrayList<>();
                rows.forEach(all::addAll);
                BigInteger[][] m = square(all);
                if (!det(m).abs().equals(BigInteger.ONE)) {
                    return -100 - place;
                }
                told.add(m);
                row = new ArrayList<>();
                rows = new ArrayList<>();
            } else {
                return -100 - place;
            }
        }
        if (!row.isEmpty() || !rows.isEmpty()) {
            return -100 - bytes.length;
        }
        gens = told;
        others();
        return told.size();
    }

    int listed() {
        return list().all.size();
    }

    int whole() {
        return list().closed ? 1 : 0;
    }

    long element(int e, int i, int j) {
        Listing<List<BigInteger>> l = list();
        refuse(!in(e, 0, l.all.size() - 1) || !in(i, 0, d - 1) || !in(j, 0, d - 1), -1);
        return square(l.all.get(e))[i][j].longValueExact();
    }

    int about(int e, int what) {
        Listing<List<BigInteger>> l = list();
        refuse(!in(e, 0, l.all.size() - 1) || !in(what, 0, 3), -1);
        if (what == 0) {
            return l.from.get(e);
        }
        if (what == 1) {
            return l.by.get(e);
        }
        if (what == 2) {
            int steps = 0;
            for (int k = e; k != 0; k = l.from.get(k)) {
                steps++;
            }
            return steps;
        }
        return order(square(l.all.get(e)));
    }

    int witness() {
        List<List<BigInteger>> all = list().all;
        for (int e = 0; e < all.size(); e++) {
            if (order(square(all.get(e))) == -3) {
                return e;
            }
        }
        return -3;
    }

    int found(int digits) {
        refuse(digits < 0, -1);
        String word = digits == 0 ? "" : Integer.toString(digits);
        refuse(word.length() > 9, -1);
        for (char c : word.toCharArray()) {
            gen(c - '1');
        }
        BigInteger[][] m = one();
        for (char c : word.toCharArray()) {
            m = times(m, gen(c - '1'));
            refuse(!within(m, 1000000000L), -16);
        }
        int e = list().all.indexOf(flat(m));
        refuse(e < 0, -3);
        return e;
    }

    int middle() {
        int many = 0;
        for (List<BigInteger> e : list().all) {
            boolean all = true;
            for (BigInteger[][] g : gens) {
                all &= Arrays.deepEquals(times(square(e), g), times(g, square(e)));
            }
            many += all ? 1 : 0;
        }
        return many;
    }

    long form(int i, int j) {
        refuse(!in(i, 0, d - 1) || !in(j, 0, d - 1), -1);
        Listing<List<BigInteger>> l = list();
        refuse(!l.closed, -3);
        BigInteger[][] sum = new BigInteger[d][d];
        for (BigInteger[] row : sum) {
            Arrays.fill(row, BigInteger.ZERO);
        }
        BigInteger common = BigInteger.ZERO;
        for (List<BigInteger> e : l.all) {
            BigInteger[][] m = times(turned(square(e)), square(e));
            for (int k = 0; k < d * d; k++) {
                sum[k / d][k % d] = sum[k / d][k % d].add(m[k / d][k % d]);
                refuse(sum[k / d][k % d].bitLength() > 63, -16);
            }
        }
        for (BigInteger v : flat(sum)) {
            common = common.gcd(v);
        }
        return sum[i][j].divide(common).longValueExact();
    }

    long[] table(int sheet, int i, int lastSort) {
        refuse(!in(sheet, 0, 3), -1);
        refuse(sheets[sheet] == null, -11);
        refuse(sorts[sheet] > lastSort, -13);
        refuse(i < 0 || (long) i + d * d > sheets[sheet].length, -12);
        return Arrays.copyOfRange(sheets[sheet], i, i + d * d);
    }

    BigInteger[][] squareOf(long[] numbers) {
        List<BigInteger> all = new ArrayList<>();
        for (long v : numbers) {
            all.add(big(v));
        }
        return square(all);
    }

    int keeps(int sheet, int i) {
        BigInteger[][] f = squareOf(table(sheet, i, 0));
        refuse(!within(f, 1000000), -16);
        boolean so = Arrays.deepEquals(f, turned(f));
        BigInteger[][] first = f;
        for (int k = d; k >= 1; k--) {
            so &= det(first).signum() > 0;
            first = without(first, k - 1, k - 1);
        }
        for (BigInteger[][] g : gens) {
            so &= Arrays.deepEquals(times(times(turned(g), f), g), f);
        }
        return so ? 1 : 0;
    }

    static void prime(int p) {
        refuse(p != 2 && p != 3 && p != 5 && p != 7, -1);
    }

    int image(int p) {
        prime(p);
        return spread(flat(one()), gens.size(),
                (e, g) -> flat(by(times(square(e), by(gens.get(g), p)), p)), 400).all.size();
    }

    int faithful(int p) {
        prime(p);
        List<List<BigInteger>> all = list().all;
        HashSet<List<BigInteger>> rests = new HashSet<>();
        for (List<BigInteger> e : all) {
            rests.add(flat(by(square(e), p)));
        }
        return rests.size() == all.size() ? 1 : 0;
    }

    List<BigInteger> moved(BigInteger[][] m, List<BigInteger> point) {
        BigInteger[][] column = new BigInteger[d][1];
        for (int k = 0; k < d; k++) {
            column[k][0] = point.get(k);
        }
        return flat(times(m, column));
    }

    List<BigInteger> start(int x, int y, int z) {
        refuse(!in(x, -1000, 1000) || !in(y, -1000, 1000) || !in(z, -1000, 1000), -1);
        return List.of(big(x), big(y), big(z)).subList(0, d);
    }

    Listing<List<BigInteger>> orbitOf(List<BigInteger> point) {
        return spread(point, gens.size(), (e, g) -> {
            List<BigInteger> to = moved(gens.get(g), e);
            return to.stream().allMatch(v -> in(v, 1000000000L)) ? to : null;
        }, 60);
    }

    int orbit(int x, int y, int z) {
        orbit = orbitOf(start(x, y, z)).all;
        return orbit.size();
    }

    long point(int k, int i) {
        refuse(orbit == null, -1);
        refuse(!in(k, 0, orbit.size() - 1) || !in(i, 0, d - 1), -1);
        return orbit.get(k).get(i).longValueExact();
    }

    int round(int what) {
        refuse(!in(what, 0, 2), -1);
        refuse(orbit == null, -3);
        if (what == 0) {
            return orbit.size();
        }
        boolean closed = orbitOf(orbit.get(0)).closed;
        if (what == 1) {
            return closed ? 1 : 0;
        }
        refuse(!closed, -3);
        // Here one behind the other is the orbit's points carried on, not their places.
        return spread(orbit, gens.size(),
                (e, g) -> e.stream().map(point -> moved(gens.get(g), point)).toList(), 200).all.size();
    }

    int still(int x, int y, int z) {
        List<BigInteger> point = start(x, y, z);
        int many = 0;
        for (List<BigInteger> e : list().all) {
            many += moved(square(e), point).equals(point) ? 1 : 0;
        }
        return many;
    }

    int seed(int v) {
        int was = z;
        z = v;
        return was;
    }

    int draw() {
        z = z * 1103515245 + 12345;
        return z >>> 16;
    }

    int lot(int n) {
        refuse(!in(n, 1, 4), -1);
        int come = Math.min(n, 4 - gens.size());
        for (int k = 0; k < come; k++) {
            int i = draw() % d;
            int j = draw() % d;
            int v = draw() % 5 - 2;
            add(unitOf(i, j, i == j ? -1 : v));
        }
        return come;
    }

    int sheet(int sheet, int sort, int n) {
        refuse(!in(sheet, 0, 3) || !in(sort, -1, 2), -1);
        refuse(sort >= 0 && n > 40, -1);
        refuse(sort >= 0 && n < 0, -14);
        sorts[sheet] = sort;
        sheets[sheet] = sort < 0 ? null : new long[n];
        return 1;
    }

    int put(int sheet, int i, long v) {
        refuse(!in(sheet, 0, 3), -1);
        refuse(sheets[sheet] == null, -11);
        refuse(!in(i, 0, sheets[sheet].length - 1), -12);
        sheets[sheet][i] = sorts[sheet] == 0 ? (int) v : sorts[sheet] == 1 ? v : (short) v;
        return 1;
    }

    int item(int sheet, int sort, int i) {
        refuse(!in(sheet, 0, 3) || !in(sort, 0, 2), -1);
        refuse(sheets[sheet] == null, -11);
        refuse(sorts[sheet] != sort, -13);
        refuse(!in(i, 0, sheets[sheet].length - 1), -12);
        return (int) sheets[sheet][i];
    }

    int copy(int sheet, int i, int other, int j, int n) {
        refuse(!in(sheet, 0, 3) || !in(other, 0, 3), -1);
        refuse(sheets[sheet] == null || sheets[other] == null, -11);
        refuse(sorts[sheet] != sorts[other], -13);
        refuse(n < 0 || i < 0 || j < 0, -12);
        refuse((long) i + n > sheets[sheet].length || (long) j + n > sheets[other].length, -12);
        long[] before = sheets[sheet].clone();
        for (int k = 0; k < n; k++) {
            sheets[other][j + k] = before[i + k];
        }
        return n;
    }

    int lay(int e, int sheet, int i) {
        List<List<BigInteger>> all = list().all;
        refuse(!in(e, 0, all.size() - 1), -1);
        table(sheet, i, 1);
        for (int k = 0; k < d * d; k++) {
            sheets[sheet][i + k] = all.get(e).get(k).longValueExact();
        }
        return d * d;
    }

    int take(int sheet, int i) {
        BigInteger[][] m = squareOf(table(sheet, i, 1));
        refuse(!within(m, 99) || !det(m).abs().equals(BigInteger.ONE), -1);
        refuse(gens.size() == 4, -2);
        return add(m);
    }

    int many(int what) {
        refuse(!in(what, 0, 2), -1);
        return what == 0 ? d : what == 1 ? gens.size() : tape.size();
    }

    int keep() {
        keptD = d;
        keptGens = new ArrayList<>(gens);
        keptZ = z;
        return 1;
    }

    int again() {
        refuse(keptGens == null, -3);
        d = keptD;
        gens = new ArrayList<>(keptGens);
        z = keptZ;
        others();
        return gens.size();
    }
}
