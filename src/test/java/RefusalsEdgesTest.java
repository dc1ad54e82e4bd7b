import java.util.ArrayList;
import java.util.List;
import java.util.function.Supplier;

/** The first paragraph of the document's terms, on refusals, and how many calls an object takes. */
public final class RefusalsEdgesTest {
    private static final int BAD = FiniteMatrices.BAD;
    private static final int FULL = FiniteMatrices.FULL;
    private static final int NONE = FiniteMatrices.NONE;
    private static final int OVER = FiniteMatrices.OVER;
    private static final String PART = "Terms";

    /** One call, whatever it answers. */
    private interface Call {
        long on(FiniteMatrices x);
    }

    private static void due(String call, long got, long want) {
        Says.due(call, got, want);
    }

    // ---- objects to be refused by

    /** Rows of all sorts, bytes, another z; no generators, no orbit, nothing kept. */
    private static FiniteMatrices bare() {
        FiniteMatrices x = new FiniteMatrices();
        x.seed(-7);
        Check.fill(x, 0, 0, 0, 1, 1, 0, 2, 0, 0, 1, 1000001, 0, 0, 1);
        Check.fill(x, 1, 1, 1, 0, 0, 1);
        Check.fill(x, 2, 2, 1, 0, 0, 1);
        Check.feedAll(x, "1 0/0-1;");
        return x;
    }

    /** With two generators, an orbit, and others kept. */
    private static FiniteMatrices some() {
        FiniteMatrices x = bare();
        x.unit(0, 1, 5);
        x.seed(77);
        x.keep();
        x.drop();
        x.seed(-7);
        x.unit(0, 0, -1);
        x.take(0, 0);
        x.orbit(1, 2, 0);
        return x;
    }

    /** With four generators, of which the last two never come back, and a tape that is almost full. */
    private static FiniteMatrices full() {
        FiniteMatrices x = some();
        x.unit(0, 1, 99);
        x.unit(1, 0, 99);
        x.orbit(0, 1, 0);
        for (int k = 0; k < 14; k++) {
            x.feed(0x2020202020202020L, k < 13 ? 8 : 6);
        }
        return x;
    }

    /** With three generators, so that there is room for one more. */
    private static FiniteMatrices three() {
        FiniteMatrices x = full();
        x.drop();
        return x;
    }

    // ---- nothing changes

    private static void tellGenerators(FiniteMatrices x, List<Long> told) {
        for (int what = 0; what <= 2; what++) {
            told.add((long) x.many(what));
        }
        for (int k = 0; k < 16; k++) {
            told.add((long) x.at(k / 4, k / 2 % 2, k % 2));
        }
        int z = x.seed(0);
        x.seed(z);
        told.add((long) z);
    }

    private static void tellListAndOrbit(FiniteMatrices x, List<Long> told) {
        for (int what = 0; what <= 2; what++) {
            told.add((long) x.round(what));
        }
        for (int k = 0; k < 16; k++) {
            told.add(x.point(k / 2, k % 2));
        }
        told.add((long) x.listed());
        told.add((long) x.whole());
        told.add((long) x.witness());
        told.add((long) x.image(5));
        for (int k = 0; k < 32; k++) {
            told.add(x.element(k / 4, k / 2 % 2, k % 2));
        }
    }

    private static void tellSheets(FiniteMatrices x, List<Long> told) {
        for (int sheet = 0; sheet <= 3; sheet++) {
            for (int place = 0; place <= 12; place++) {
                told.add((long) x.item(sheet, sheet % 3, place));
            }
        }
    }

    /** All that can be asked of an object; in the end by calls that change it. */
    private static List<Long> allOf(FiniteMatrices x) {
        List<Long> told = new ArrayList<>();
        tellGenerators(x, told);
        tellListAndOrbit(x, told);
        tellSheets(x, told);
        told.add((long) x.text());
        tellGenerators(x, told);
        told.add((long) x.again());
        tellGenerators(x, told);
        return told;
    }

    private static void refused(Supplier<FiniteMatrices> state, String name, long want, Call call) {
        FiniteMatrices x = state.get();
        due(name, call.on(x), want);
        Says.holds(name + " changes nothing", allOf(x).equals(allOf(state.get())));
    }

    private static void generatorsRefused() {
        Supplier<FiniteMatrices> s = RefusalsEdgesTest::some;
        refused(s, "size(0)", BAD, x -> x.size(0));
        refused(s, "size(4)", BAD, x -> x.size(4));
        refused(s, "unit(2, 0, 1)", BAD, x -> x.unit(2, 0, 1));
        refused(s, "unit(0, 0, 2)", BAD, x -> x.unit(0, 0, 2));
        refused(s, "unit(0, 1, 100)", BAD, x -> x.unit(0, 1, 100));
        refused(RefusalsEdgesTest::full, "unit(0, 1, 1)", FULL, x -> x.unit(0, 1, 1));
        refused(s, "made(4, 0, 0)", BAD, x -> x.made(4, 0, 0));
        refused(s, "made(1, 2, 0)", BAD, x -> x.made(1, 2, 0));
        refused(s, "made(0, 0, 2)", BAD, x -> x.made(0, 0, 2));
        refused(RefusalsEdgesTest::full, "made(0, 0, 0)", FULL, x -> x.made(0, 0, 0));
        refused(RefusalsEdgesTest::three, "made(0, 2, 2)", OVER, x -> x.made(0, 2, 2));
        refused(RefusalsEdgesTest::bare, "drop()", NONE, FiniteMatrices::drop);
        refused(s, "at(2, 0, 0)", BAD, x -> x.at(2, 0, 0));
        refused(s, "of(0, 3)", BAD, x -> x.of(0, 3));
        refused(RefusalsEdgesTest::full, "of(2, 2)", NONE, x -> x.of(2, 2));
        refused(s, "character(0, 3)", BAD, x -> x.character(0, 3));
        refused(s, "factor(0, 5)", BAD, x -> x.factor(0, 5));
        refused(s, "feed(1, 0)", BAD, x -> x.feed(1, 0));
        refused(s, "feed(1, 9)", BAD, x -> x.feed(1, 9));
        refused(RefusalsEdgesTest::full, "feed(0, 3)", FULL, x -> x.feed(0, 3));
    }

    private static void listRefused() {
        Supplier<FiniteMatrices> s = RefusalsEdgesTest::some;
        Supplier<FiniteMatrices> f = RefusalsEdgesTest::full;
        refused(s, "element(8, 0, 0)", Check.LONG_BAD, x -> x.element(8, 0, 0));
        refused(s, "about(8, 0)", BAD, x -> x.about(8, 0));
        refused(s, "about(0, 4)", BAD, x -> x.about(0, 4));
        refused(f, "about(4, 3)", NONE, x -> x.about(4, 3));
        refused(s, "witness()", NONE, FiniteMatrices::witness);
        refused(s, "found(3)", BAD, x -> x.found(3));
        refused(s, "found(-1)", BAD, x -> x.found(-1));
        refused(f, "found(343434343)", OVER, x -> x.found(343434343));
        refused(f, "found(333333333)", NONE, x -> x.found(333333333));
        refused(s, "form(2, 0)", Check.LONG_BAD, x -> x.form(2, 0));
        refused(f, "form(0, 0)", Check.LONG_NONE, x -> x.form(0, 0));
        refused(s, "keeps(4, 0)", BAD, x -> x.keeps(4, 0));
        refused(s, "keeps(3, 0)", -11, x -> x.keeps(3, 0));
        refused(s, "keeps(1, 0)", -13, x -> x.keeps(1, 0));
        refused(s, "keeps(0, 9)", -12, x -> x.keeps(0, 9));
        refused(s, "keeps(0, 8)", OVER, x -> x.keeps(0, 8));
    }

    private static void orbitsRefused() {
        Supplier<FiniteMatrices> s = RefusalsEdgesTest::some;
        refused(s, "image(4)", BAD, x -> x.image(4));
        refused(s, "faithful(4)", BAD, x -> x.faithful(4));
        refused(s, "orbit(1001, 0, 0)", BAD, x -> x.orbit(1001, 0, 0));
        refused(s, "orbit(0, 0, 1001)", BAD, x -> x.orbit(0, 0, 1001));
        refused(s, "point(8, 0)", Check.LONG_BAD, x -> x.point(8, 0));
        refused(RefusalsEdgesTest::bare, "point(0, 0)", Check.LONG_BAD, x -> x.point(0, 0));
        refused(s, "round(3)", BAD, x -> x.round(3));
        refused(RefusalsEdgesTest::bare, "round(0)", NONE, x -> x.round(0));
        refused(RefusalsEdgesTest::full, "round(2)", NONE, x -> x.round(2));
        refused(s, "still(0, 1001, 0)", BAD, x -> x.still(0, 1001, 0));
        refused(s, "lot(0)", BAD, x -> x.lot(0));
        refused(s, "lot(5)", BAD, x -> x.lot(5));
        refused(s, "many(3)", BAD, x -> x.many(3));
        refused(RefusalsEdgesTest::bare, "again()", NONE, FiniteMatrices::again);
    }

    private static void rowsRefused() {
        Supplier<FiniteMatrices> s = RefusalsEdgesTest::some;
        refused(s, "sheet(4, 0, 1)", BAD, x -> x.sheet(4, 0, 1));
        refused(s, "sheet(0, 3, 1)", BAD, x -> x.sheet(0, 3, 1));
        refused(s, "sheet(0, 0, 41)", BAD, x -> x.sheet(0, 0, 41));
        refused(s, "sheet(0, 0, -1)", -14, x -> x.sheet(0, 0, -1));
        refused(s, "put(4, 0, 1)", BAD, x -> x.put(4, 0, 1));
        refused(s, "put(3, 0, 1)", -11, x -> x.put(3, 0, 1));
        refused(s, "put(0, 12, 1)", -12, x -> x.put(0, 12, 1));
        refused(s, "item(0, 3, 0)", BAD, x -> x.item(0, 3, 0));
        refused(s, "item(3, 0, 0)", -11, x -> x.item(3, 0, 0));
        refused(s, "item(0, 1, 0)", -13, x -> x.item(0, 1, 0));
        refused(s, "item(0, 0, 12)", -12, x -> x.item(0, 0, 12));
        refused(s, "copy(0, 0, 4, 0, 1)", BAD, x -> x.copy(0, 0, 4, 0, 1));
        refused(s, "copy(0, 0, 3, 0, 1)", -11, x -> x.copy(0, 0, 3, 0, 1));
        refused(s, "copy(0, 1, 1, 0, 1)", -13, x -> x.copy(0, 1, 1, 0, 1));
        refused(s, "copy(0, 0, 0, 1, 12)", -12, x -> x.copy(0, 0, 0, 1, 12));
        refused(s, "lay(8, 0, 0)", BAD, x -> x.lay(8, 0, 0));
        refused(s, "lay(0, 4, 0)", BAD, x -> x.lay(0, 4, 0));
        refused(s, "lay(1, 3, 0)", -11, x -> x.lay(1, 3, 0));
        refused(s, "lay(1, 2, 0)", -13, x -> x.lay(1, 2, 0));
        refused(s, "lay(1, 0, 9)", -12, x -> x.lay(1, 0, 9));
        refused(s, "take(4, 0)", BAD, x -> x.take(4, 0));
        refused(s, "take(3, 0)", -11, x -> x.take(3, 0));
        refused(s, "take(2, 0)", -13, x -> x.take(2, 0));
        refused(s, "take(0, 9)", -12, x -> x.take(0, 9));
        refused(s, "take(0, 4)", BAD, x -> x.take(0, 4));
        refused(RefusalsEdgesTest::full, "take(0, 0)", FULL, x -> x.take(0, 0));
    }

    private static void changesNothing() {
        generatorsRefused();
        listRefused();
        orbitsRefused();
        rowsRefused();
    }

    private static void notRefused() {
        FiniteMatrices x = Check.of(2, "-1 0/0 -1;");
        due("seed tells what was", x.seed(-1), 1);
        due("-1 is what was", x.seed(5), -1);
        due("it became another one", x.seed(5), 5);
        Check.fill(x, 0, 0, -1, -11);
        due("-1 stands there", x.item(0, 0, 0), -1);
        due("-11 stands there", x.item(0, 0, 1), -11);
        due("-1 is the number", x.element(1, 0, 0), -1);
        due("the first came from none", x.about(0, 0), -3);
        due("so it did", x.about(0, 1), -3);
        x.orbit(3, 1, 0);
        due("-3 is the number of a point", x.point(1, 0), -3);
    }

    private static void tapeIsUsedUp() {
        FiniteMatrices x = some();
        x.feed('x', 1);
        due("the fault", x.text(), -108);
        due("no bytes are left", x.many(2), 0);
        due("nothing else changed: generators", x.many(1), 2);
        due("nothing else changed: the orbit", x.round(0), 8);
        due("nothing else changed: z", x.seed(3), -7);
        due("nothing else changed: what is kept", x.again(), 1);
        due("what comes is read from its first byte on", Check.textOf(x, "1x"), -101);
        due("a text that is understood is used up, too", Check.textOf(x, "1 0/0 1;"), 1);
        due("no bytes are left behind it", x.many(2), 0);
    }

    // ---- the first named

    private static void firstNamedOfGenerators() {
        FiniteMatrices x = full();
        due("unit: BAD, FULL", x.unit(0, 1, 100), BAD);
        due("unit: BAD, FULL, by its row", x.unit(2, 1, 1), BAD);
        due("made: BAD, FULL", x.made(1, 4, 0), BAD);
        due("made: BAD, FULL, by b", x.made(0, 0, 4), BAD);
        due("made: FULL, OVER", x.made(0, 2, 2), FULL);
        due("feed: BAD, FULL", x.feed(0, 9), BAD);
        due("found: BAD, OVER", x.found(343434345), BAD);
        due("found: BAD, OVER, the first digit", x.found(543434343), BAD);
        due("found: OVER, NONE", x.found(343434343), OVER);
        due("form: BAD, NONE", x.form(0, 2), Check.LONG_BAD);
        due("round: BAD, NONE", bare().round(3), BAD);
        due("of: BAD, NONE", x.of(2, 3), BAD);
        due("about: BAD, NONE", x.about(4, 4), BAD);
        due("keeps: -11, -12", x.keeps(3, -1), -11);
        due("keeps: -13, -12", x.keeps(1, -1), -13);
        due("keeps: -13, OVER", x.keeps(2, 0), -13);
        due("keeps: -12, OVER", x.keeps(0, 9), -12);
        due("keeps: BAD, -12", x.keeps(4, -1), BAD);
    }

    private static void firstNamedOfRows() {
        FiniteMatrices x = full();
        due("sheet: BAD, -14", x.sheet(4, 0, -1), BAD);
        due("sheet: BAD by the sort, -14", x.sheet(0, 3, -1), BAD);
        due("put: BAD, -12", x.put(4, -1, 0), BAD);
        due("put: -11, -12", x.put(3, -1, 0), -11);
        due("item: BAD, -11", x.item(3, 3, 0), BAD);
        due("item: BAD, -13", x.item(0, 3, 0), BAD);
        due("item: -11, -12", x.item(3, 0, -1), -11);
        due("item: -13, -12", x.item(0, 1, -1), -13);
        due("copy: BAD, -11", x.copy(3, 0, 4, 0, 1), BAD);
        due("copy: BAD, -12", x.copy(4, 0, 0, 0, -1), BAD);
        due("copy: -11, -12", x.copy(0, -1, 3, 0, 1), -11);
        due("copy: -11, -12, the other way", x.copy(3, 0, 0, -1, 1), -11);
        due("copy: -13, -12", x.copy(0, 0, 1, 0, -1), -13);
        due("lay: BAD, -11", x.lay(-1, 3, 0), BAD);
        due("lay: BAD, -13", x.lay(100, 2, 0), BAD);
        due("lay: BAD, -12", x.lay(100, 0, -1), BAD);
        due("lay: -11, -12", x.lay(0, 3, -1), -11);
        due("lay: -13, -12", x.lay(0, 2, -1), -13);
        due("take: BAD, -12", x.take(4, -1), BAD);
        due("take: -11, -12, FULL", x.take(3, -1), -11);
        due("take: -13, -12, FULL", x.take(2, -1), -13);
        due("take: -12, FULL", x.take(0, 9), -12);
        due("take: BAD, FULL", x.take(0, 4), BAD);
        due("take: BAD by a number, FULL", x.take(0, 8), BAD);
    }

    private static void firstNamed() {
        firstNamedOfGenerators();
        firstNamedOfRows();
    }

    // ---- the numbers of refusals

    private static void badFullNone() {
        due("BAD", FiniteMatrices.BAD, -1);
        due("FULL", FiniteMatrices.FULL, -2);
        due("NONE", FiniteMatrices.NONE, -3);
        due("there is no such generator", bare().at(0, 0, 0), -1);
        due("a number is not as told", bare().unit(0, 1, 100), -1);
        due("full", full().unit(0, 1, 1), -2);
        due("none", bare().drop(), -3);
    }

    private static void whatTheHostRefuses() {
        due("nothing where something is asked", bare().put(3, 0, 1), -11);
        due("a place outside", bare().put(0, 12, 1), -12);
        due("a row of another sort", bare().item(0, 2, 0), -13);
        due("a size below 0", bare().sheet(0, 0, -1), -14);
    }

    private static void tooGreat() {
        due("OVER", FiniteMatrices.OVER, -16);
        due("by made", three().made(0, 2, 2), -16);
        due("by found", full().found(343434343), -16);
        due("by keeps", bare().keeps(0, 8), -16);
    }

    private static void whereALongIsAnswered() {
        due("BAD by element", bare().element(1, 0, 0), -4000000000000000001L);
        due("BAD by form", bare().form(2, 0), -4000000000000000001L);
        due("BAD by point", bare().point(0, 0), -4000000000000000001L);
        due("NONE by form", full().form(0, 0), -4000000000000000003L);
        long most = 1000000000;
        due("OVER by form", Inside.withList(most, most, most, most, most, most, most, most, most, most).form(0, 0),
                -4000000000000000016L);
    }

    // ---- how many calls

    /** 512 calls, of which each eighth is dear; the last ones must answer as the first ones did. */
    private static void calls512() {
        FiniteMatrices x = new FiniteMatrices();
        for (int k = 0; k < 64; k++) {
            boolean last = k == 63;
            due("call " + (8 * k + 1), x.size(3 - k % 2), k == 0 ? 2 : 2 + k % 2);
            due("call " + (8 * k + 2), x.unit(0, 1, 1), 0);
            due("call " + (8 * k + 3), x.unit(1, 0, 1), 1);
            due("call " + (8 * k + 4), x.image(7), 336);
            due("call " + (8 * k + 5), x.listed(), 100);
            due("call " + (8 * k + 6), x.orbit(0, 1, 0), 60);
            due("call " + (8 * k + 7), x.round(1), 0);
            due("call " + (8 * k + 8), last ? x.witness() : x.faithful(7), last ? 1 : 0);
        }
    }

    private static void refusals() {
        Says.test(PART, "Answers below 0, where not told otherwise, are refusals; such a call changes nothing",
                RefusalsEdgesTest::changesNothing);
        Says.test(PART, "where not told otherwise", RefusalsEdgesTest::notRefused);
        Says.test(PART, "(but that THE TAPE is used up by text())", RefusalsEdgesTest::tapeIsUsedUp);
        Says.test(PART, "of several the first named", RefusalsEdgesTest::firstNamed);
        Says.test(PART, "BAD (-1) there is no such thing, or a number is not as told; FULL (-2); NONE (-3)",
                RefusalsEdgesTest::badFullNone);
        Says.test(PART, "and what the host refuses: -11 nothing where something is asked, -12 a place outside, "
                + "-13 a row of another sort, -14 a size below 0", RefusalsEdgesTest::whatTheHostRefuses);
        Says.test(PART, "OVER (-16): a number is too great", RefusalsEdgesTest::tooGreat);
        Says.test(PART, "Where a long is answered, it is 4000000000000000000 less (BAD: -4000000000000000001)",
                RefusalsEdgesTest::whereALongIsAnswered);
        Says.test("What it is", "An object is used for at most 512 calls after it has been made", RefusalsEdgesTest::calls512);
    }

    public static void main(String[] args) {
        refusals();
        Says.whole(PART);
        Says.finish();
    }
}
