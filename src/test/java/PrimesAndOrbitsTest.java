/** Promises 21 to 26. */
public final class PrimesAndOrbitsTest {
    private static final int BAD = FiniteMatrices.BAD;
    private static final int NONE = FiniteMatrices.NONE;
    private static final String SIGNED = "0 1 0/1 0 0/0 0 1;0 1 0/0 0 1/1 0 0;-1 0 0/0 1 0/0 0 1;";
    private static final String ALL_OF_TWO = "1 1/0 1;1 0/1 1;";
    private static final String ALL_OF_THREE = "1 1 0/0 1 0/0 0 1;0 1 0/0 0 1/1 0 0;";

    private static void due(String call, long got, long want) {
        Check.due(call, got, want);
    }

    private static void promise21Image() {
        FiniteMatrices x = Check.of(2, ALL_OF_TWO);
        due("21: by 2", x.image(2), 6);
        due("21: by 3", x.image(3), 24);
        due("21: by 5", x.image(5), 120);
        due("21: by 7", x.image(7), 336);
        due("21: by 2, once more", x.image(2), 6);
        int[] wrong = {-1, 0, 1, 4, 6, 8, 11, Integer.MAX_VALUE, Integer.MIN_VALUE, -2};
        for (int p : wrong) {
            due("21: by " + p, x.image(p), BAD);
        }
        x.unit(0, 0, -1);
        due("21: with signs, by 5", x.image(5), 240);
        due("21: with signs, by 7, it ends with 400", x.image(7), 400);
        due("21: with signs, by 2", x.image(2), 6);
        x.drop();
        due("21: it follows the generators", x.image(5), 120);
        FiniteMatrices three = Check.of(3, ALL_OF_THREE);
        due("21: three rows, by 2", three.image(2), 168);
        due("21: three rows, by 3, it ends with 400", three.image(3), 400);
        due("21: numbers below 0", Check.of(2, "1 -1/0 1;").image(7), 7);
        due("21: a number that leaves 0", Check.of(2, "1 35/0 1;").image(7), 1);
        due("21: nothing", new FiniteMatrices().image(2), 1);
        due("21: one row, by 2", Check.of(1, "-1;").image(2), 1);
        due("21: one row, by 3", Check.of(1, "-1;").image(3), 2);
    }

    private static void promise22Faithful() {
        FiniteMatrices x = Check.of(3, SIGNED);
        due("22: by 2", x.faithful(2), 0);
        due("22: by 3", x.faithful(3), 1);
        due("22: by 5", x.faithful(5), 1);
        due("22: by 7", x.faithful(7), 1);
        due("22: no end", Check.of(2, "1 1/0 1;").faithful(7), 0);
        due("22: few, though no end", Check.of(2, "99 98/1 1;").faithful(7), 1);
        due("22: one row, by 2", Check.of(1, "-1;").faithful(2), 0);
        due("22: nothing", new FiniteMatrices().faithful(2), 1);
        due("22: a rotation by 2", Check.of(2, "0 -1/1 -1;").faithful(2), 1);
        int[] wrong = {-1, 0, 1, 4, 6, 8, 11, Integer.MAX_VALUE, Integer.MIN_VALUE};
        for (int p : wrong) {
            due("22: by " + p, x.faithful(p), BAD);
        }
    }

    private static void promise23Orbit() {
        FiniteMatrices x = Check.of(3, SIGNED);
        due("23: all apart", x.orbit(1, 2, 3), 48);
        due("23: two alike", x.orbit(1, 1, 2), 24);
        due("23: on an axis", x.orbit(0, 0, 1), 6);
        due("23: nothing", x.orbit(0, 0, 0), 1);
        due("23: as far as may be", x.orbit(1000, -1000, 1000), 8);
        due("23: x above", x.orbit(1001, 0, 0), BAD);
        due("23: x below", x.orbit(-1001, 0, 0), BAD);
        due("23: y above", x.orbit(0, 1001, 0), BAD);
        due("23: y below", x.orbit(0, -1001, 0), BAD);
        due("23: z above", x.orbit(0, 0, 1001), BAD);
        due("23: z below", x.orbit(0, 0, -1001), BAD);
        due("23: a refusal leaves the orbit", x.round(0), 8);
        due("23: it ends with 60", Check.of(2, "1 1/0 1;").orbit(0, 1, 0), 60);
        due("23: it ends where numbers do", Check.of(3, "0 0 1/1 0 0/0 1 3;").orbit(1, 2, 3), 18);
        FiniteMatrices two = Check.of(2, "0 1/1 0;");
        due("23: the third does not count", two.orbit(1, 2, 7), 2);
        due("23: but must be as told", two.orbit(1, 2, 1001), BAD);
        due("23: one row", Check.of(1, "-1;").orbit(5, 6, 7), 2);
        due("23: no generators", new FiniteMatrices().orbit(1, 1, 1), 1);
    }

    private static void promise24Point() {
        FiniteMatrices x = Check.of(2, "1 1/0 1;0 -1/1 0;");
        due("24: none yet", x.point(0, 0), Check.LONG_BAD);
        x.orbit(3, 5, 9);
        due("24: the first", x.point(0, 0), 3);
        due("24: the first, second number", x.point(0, 1), 5);
        due("24: the generator times it", x.point(1, 0), 8);
        due("24: the second generator times it", x.point(2, 0), -5);
        due("24: the second generator times it, second number", x.point(2, 1), 3);
        due("24: the first of the second", x.point(3, 0), 13);
        due("24: the last", x.point(59, 0) != Check.LONG_BAD ? 1 : 0, 1);
        due("24: k above", x.point(60, 0), Check.LONG_BAD);
        due("24: k below", x.point(-1, 0), Check.LONG_BAD);
        due("24: i above", x.point(0, 2), Check.LONG_BAD);
        due("24: i below", x.point(0, -1), Check.LONG_BAD);
        FiniteMatrices great = Check.of(2, "99 98/1 1;");
        due("24: it ends below 1000000000", great.orbit(1000, 0, 0), 4);
        due("24: a great number", great.point(3, 0), 989801000);
        due("24: CLOSED no more", great.round(1), 0);
        orbitToTheEdge();
    }

    private static void orbitToTheEdge() {
        FiniteMatrices x = Check.of(2, "70 47/73 49;");
        due("23: the fourth is just within", x.orbit(688, 416, 0), 4);
        due("24: 1000000000", Math.max(x.point(3, 0), x.point(3, 1)), 1000000000);
        FiniteMatrices on = Check.of(3, "70 47 0/73 49 0/0 0 1;1 0 0/0 1 1/0 0 1;");
        int points = on.orbit(688, 416, 1);
        boolean edge = false;
        boolean beyond = false;
        for (int k = 0; k < points; k++) {
            edge |= on.point(k, 1) == 1000000000;
            beyond |= on.point(k, 1) > 1000000000;
        }
        Check.holds("23: 1000000000 is taken", edge);
        Check.holds("23: 1000000001 is not, though it would come as one of the first 16", !beyond);
        due("25: so it is not closed", on.round(1), 0);
    }

    private static FiniteMatrices withOrbit() {
        FiniteMatrices x = Check.of(2, "0 1/1 0;1 0/0 -1;");
        x.keep();
        due("25: eight", x.orbit(1, 2, 0), 8);
        return x;
    }

    private static void gone(String behind, FiniteMatrices x) {
        due("25: none behind " + behind, x.round(0), NONE);
        due("25: none to ask behind " + behind, x.round(2), NONE);
        due("25: BAD ahead of NONE behind " + behind, x.round(3), BAD);
        due("24: no point behind " + behind, x.point(0, 0), Check.LONG_BAD);
    }

    private static void stays(String behind, FiniteMatrices x) {
        due("25: eight behind " + behind, x.round(0), 8);
        due("25: closed behind " + behind, x.round(1), 1);
    }

    private static void promise25Round() {
        gone("nothing", new FiniteMatrices());
        FiniteMatrices x = withOrbit();
        due("25: closed", x.round(1), 1);
        due("25: its round", x.round(2), 8);
        due("25: its round, once more", x.round(2), 8);
        due("25: what above", x.round(3), BAD);
        due("25: what below", x.round(-1), BAD);
        x.orbit(1, 0, 0);
        due("25: four points", x.round(0), 4);
        due("25: round of four points", x.round(2), 8);
        x.orbit(0, 0, 0);
        due("25: round of one point", x.round(2), 1);
        FiniteMatrices signed = Check.of(3, SIGNED);
        signed.orbit(1, 2, 3);
        due("25: round of 48", signed.round(2), 48);
        signed.orbit(1, 1, 1);
        due("25: round of 8", signed.round(2), 48);
        FiniteMatrices never = Check.of(2, "1 1/0 1;");
        never.orbit(0, 1, 0);
        due("25: 60", never.round(0), 60);
        due("25: not closed", never.round(1), 0);
        due("25: no round", never.round(2), NONE);
        never.orbit(1, 0, 0);
        due("25: closed though no end", never.round(1), 1);
        due("25: the round of that", never.round(2), 1);
        FiniteMatrices part = Check.of(3, "-1 0 0/0 1 0/0 0 1;1 0 0/0 1 1/0 0 1;");
        part.orbit(1, 0, 0);
        due("25: less is done than there is", part.round(2), 2);
        orbitComesAndGoes();
    }

    private static void orbitComesAndGoes() {
        FiniteMatrices x = withOrbit();
        x.unit(0, 1, 1);
        gone("unit", x);
        x = withOrbit();
        x.made(0, 0, 1);
        gone("made", x);
        x = withOrbit();
        x.drop();
        gone("drop", x);
        x = withOrbit();
        x.lot(1);
        gone("lot", x);
        x = withOrbit();
        x.again();
        gone("again", x);
        x = withOrbit();
        x.size(3);
        gone("size", x);
        x = withOrbit();
        Check.textOf(x, "0 1/1 0;");
        gone("text", x);
        x = withOrbit();
        Check.fill(x, 0, 0, 0, 1, 1, 0);
        x.take(0, 0);
        gone("take", x);
        orbitStays();
    }

    private static void orbitStays() {
        FiniteMatrices x = withOrbit();
        x.unit(0, 1, 100);
        x.made(0, 0, 9);
        x.size(2);
        x.size(0);
        x.lot(0);
        x.take(0, 0);
        x.keep();
        x.seed(9);
        x.listed();
        x.image(7);
        x.faithful(7);
        x.still(1, 1, 1);
        x.orbit(9999, 0, 0);
        Check.textOf(x, "0 1/1 0");
        stays("refusals and questions", x);
        due("25: its round behind these", x.round(2), 8);
        x = Check.of(2, "0 1/1 0;1 0/0 -1;0 1/1 0;1 0/0 -1;");
        x.orbit(1, 2, 0);
        x.lot(4);
        x.unit(0, 1, 1);
        stays("calls with no room", x);
    }

    private static void promise26Still() {
        FiniteMatrices x = Check.of(3, SIGNED);
        due("26: all", x.still(0, 0, 0), 48);
        due("26: on an axis", x.still(0, 0, 1), 8);
        due("26: on a diagonal", x.still(1, 1, 1), 6);
        due("26: apart", x.still(1, 2, 3), 1);
        due("26: as far as may be", x.still(-1000, 1000, 0), 4);
        due("26: x above", x.still(1001, 0, 0), BAD);
        due("26: x below", x.still(-1001, 0, 0), BAD);
        due("26: y above", x.still(0, 1001, 0), BAD);
        due("26: y below", x.still(0, -1001, 0), BAD);
        due("26: z above", x.still(0, 0, 1001), BAD);
        due("26: z below", x.still(0, 0, -1001), BAD);
        FiniteMatrices two = Check.of(2, "1 1/0 1;");
        due("26: of no end", two.still(1, 0, 5), 100);
        due("26: of no end, but one", two.still(0, 1, 5), 1);
        due("26: the third must be as told", two.still(1, 0, 1001), BAD);
        due("26: no orbit is made", two.round(0), NONE);
        due("26: one row", Check.of(1, "-1;").still(0, 5, 5), 2);
    }

    public static void main(String[] args) {
        promise21Image();
        promise22Faithful();
        promise23Orbit();
        promise24Point();
        promise25Round();
        promise26Still();
        Check.finish();
    }
}
