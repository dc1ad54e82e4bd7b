/** Promises 21 to 26, sentence by sentence, at their edges. */
public final class OrbitsEdgesTest {
    private static final int BAD = FiniteMatrices.BAD;
    private static final int NONE = FiniteMatrices.NONE;
    private static final int[] PRIMES = {2, 3, 5, 7};
    private static final int[] NO_PRIMES = {Integer.MIN_VALUE, -7, -5, -3, -2, -1, 0, 1, 4, 6, 8, 9, 10, 11, 13,
        Integer.MAX_VALUE};

    private static void due(String call, long got, long want) {
        Says.due(call, got, want);
    }

    // ---- 21, 22: image, faithful

    private static void imageIs() {
        FiniteMatrices shear = Check.of(2, Edges.SHEAR);
        FiniteMatrices all = Check.of(2, "1 1/0 1;1 0/1 1;");
        int[] many = {6, 24, 120, 336};
        for (int k = 0; k < 4; k++) {
            int p = PRIMES[k];
            due("no generators, by " + p, new FiniteMatrices().image(p), 1);
            due("one row, by " + p, Check.of(1, "-1;").image(p), p == 2 ? 1 : 2);
            due("a shear, by " + p, shear.image(p), p);
            due("all of determinant 1, by " + p, all.image(p), many[k]);
        }
        all.unit(0, 0, -1);
        due("it follows the generators", all.image(5), 240);
        due("with 400 it ends", all.image(7), 400);
        all.size(3);
        due("none of another size", all.image(7), 1);
    }

    private static void imageBad() {
        FiniteMatrices x = Check.of(2, Edges.SHEAR);
        for (int p : NO_PRIMES) {
            due("image(" + p + ")", x.image(p), BAD);
        }
    }

    private static void faithfulIs() {
        for (int p : PRIMES) {
            due("no generators, by " + p, new FiniteMatrices().faithful(p), 1);
            due("one row, by " + p, Check.of(1, "-1;").faithful(p), p == 2 ? 0 : 1);
            due("48, by " + p, Check.of(3, Edges.SIGNED).faithful(p), p == 2 ? 0 : 1);
            due("100, by " + p, Check.of(2, Edges.SHEAR).faithful(p), 0);
            // What is left of it comes back behind 2, 6, 4 and 7 steps; there are 5 elements.
            due("few, though no end, by " + p, Check.of(2, Edges.STEEP).faithful(p), p == 3 || p == 7 ? 1 : 0);
        }
        due("100 of three rows, by 7", Check.of(3, Edges.FOUR_OF_THREE).faithful(7), 1);
        FiniteMatrices x = Check.of(2, "-1 0/0 -1;");
        due("1 and -1, by 2", x.faithful(2), 0);
        x.drop();
        due("what was listed before counts no more", x.faithful(2), 1);
        due("a turn by a third, by 2", Check.of(2, "0 -1/1 -1;").faithful(2), 1);
        due("a turn by a sixth, by 2", Check.of(2, Edges.SIXTH).faithful(2), 0);
    }

    private static void faithfulBad() {
        FiniteMatrices x = Check.of(2, Edges.SHEAR);
        for (int p : NO_PRIMES) {
            due("faithful(" + p + ")", x.faithful(p), BAD);
        }
    }

    // ---- 23: orbit

    private static void orbitIs() {
        int[] edges = {-1000, 1000};
        for (int first : edges) {
            for (int second : edges) {
                for (int third : edges) {
                    FiniteMatrices x = Check.of(3, "-1 0 0/0 -1 0/0 0 -1;");
                    due("as far as may be", x.orbit(first, second, third), 2);
                    due("its first number", x.point(0, 0), first);
                    due("its second number", x.point(0, 1), second);
                    due("its third number", x.point(0, 2), third);
                    due("the other one", x.point(1, 2), -third);
                }
            }
        }
        due("all 0", Check.of(2, Edges.SQUARE).orbit(0, 0, 0), 1);
        due("no generators", new FiniteMatrices().orbit(1, 2, 3), 1);
        due("48", Check.of(3, Edges.SIGNED).orbit(1, 2, 3), 48);
        due("60", Check.of(2, Edges.SHEAR).orbit(0, 1, 0), 60);
        due("60 of four generators of three rows", Check.of(3, Edges.FOUR_OF_THREE).orbit(1000, 1000, 1000), 60);
        FiniteMatrices x = Check.of(2, Edges.SQUARE);
        x.orbit(1, 2, 0);
        due("another one in its place", x.orbit(1, 0, 0), 4);
        due("its points alone", x.round(0), 4);
        due("its second point", x.point(1, 1), 1);
    }

    private static void orbitCounts() {
        FiniteMatrices one = Check.of(1, "-1;");
        due("d 1: the first counts", one.orbit(0, 5, 7), 1);
        due("d 1: the others do not", one.orbit(5, -1000, 1000), 2);
        due("d 1: no second number", one.point(0, 1), Check.LONG_BAD);
        FiniteMatrices two = Check.of(2, "1 0/0 -1;");
        due("d 2: the second counts", two.orbit(0, 5, 7), 2);
        due("d 2: the third does not", two.orbit(5, 0, 7), 1);
        due("d 2: no third number", two.point(0, 2), Check.LONG_BAD);
        FiniteMatrices three = Check.of(3, "1 0 0/0 1 0/0 0 -1;");
        due("d 3: the third counts", three.orbit(0, 5, 7), 2);
    }

    private static void orbitBad() {
        for (int d = 1; d <= 3; d++) {
            FiniteMatrices x = Edges.ofSize(d);
            x.unit(0, 0, -1);
            x.orbit(1, 1, 1);
            for (int off : Edges.outside(-1000, 1000)) {
                due("x " + off, x.orbit(off, 0, 0), BAD);
                due("y " + off + ", d " + d, x.orbit(0, off, 0), BAD);
                due("z " + off + ", d " + d, x.orbit(0, 0, off), BAD);
            }
            due("the one that was stays", x.round(0), 2);
            due("its first number", x.point(0, 0), 1);
        }
    }

    // ---- 24: point

    private static void pointIs() {
        FiniteMatrices x = Check.of(2, "1 1/0 1;0 -1/1 0;");
        x.orbit(3, 5, 9);
        long[][] points = {{3, 5}, {8, 5}, {-5, 3}, {13, 5}, {-5, 8}, {-2, 3}, {-3, -5}};
        for (int k = 0; k < points.length; k++) {
            due("point " + k + ", number 0", x.point(k, 0), points[k][0]);
            due("point " + k + ", number 1", x.point(k, 1), points[k][1]);
        }
        FiniteMatrices shear = Check.of(2, Edges.SHEAR);
        shear.orbit(0, 1, 0);
        due("the last of 60", shear.point(59, 0), 59);
        FiniteMatrices great = Check.of(2, "70 47/73 49;");
        great.orbit(688, 416, 0);
        due("a great number", Math.max(great.point(3, 0), great.point(3, 1)), 1000000000);
    }

    private static void pointBad() {
        for (int d = 1; d <= 3; d++) {
            FiniteMatrices x = Edges.ofSize(d);
            due("there is none", x.point(0, 0), Check.LONG_BAD);
            x.unit(0, 0, -1);
            x.orbit(1, 1, 1);
            for (int off : Edges.outside(0, 1)) {
                due("k " + off, x.point(off, 0), Check.LONG_BAD);
            }
            for (int off : Edges.outside(0, d - 1)) {
                due("i " + off + ", d " + d, x.point(0, off), Check.LONG_BAD);
            }
            x.drop();
            due("there is none any more", x.point(0, 0), Check.LONG_BAD);
        }
        FiniteMatrices shear = Check.of(2, Edges.SHEAR);
        shear.orbit(0, 1, 0);
        due("k 60", shear.point(60, 0), Check.LONG_BAD);
    }

    // ---- 25: round

    private static void roundOf(FiniteMatrices x, String which, int points, int closed, int round) {
        due(which + ", points", x.round(0), points);
        due(which + ", closed", x.round(1), closed);
        due(which + ", round", x.round(2), round);
        due(which + ", round once more", x.round(2), round);
    }

    private static void roundIs() {
        FiniteMatrices x = new FiniteMatrices();
        x.orbit(1, 1, 1);
        roundOf(x, "no generators", 1, 1, 1);
        x = Check.of(2, Edges.SQUARE);
        x.orbit(1, 2, 0);
        roundOf(x, "eight", 8, 1, 8);
        x.orbit(1, 0, 0);
        roundOf(x, "four", 4, 1, 8);
        x.orbit(0, 0, 0);
        roundOf(x, "one", 1, 1, 1);
        x = Check.of(3, Edges.SIGNED);
        x.orbit(1, 2, 3);
        roundOf(x, "48", 48, 1, 48);
        x.orbit(1, 0, 0);
        roundOf(x, "six", 6, 1, 48);
        x = Check.of(2, Edges.SQUARE);
        x.image(7);
        x.orbit(1, 2, 0);
        x.faithful(7);
        roundOf(x, "behind an image", 8, 1, 8);
        x = Check.of(2, Edges.SHEAR);
        x.orbit(7, 0, 0);
        roundOf(x, "closed, though the list has no end", 1, 1, 1);
    }

    private static void roundNotClosed() {
        FiniteMatrices x = Check.of(2, Edges.SHEAR);
        x.orbit(0, 1, 0);
        roundOf(x, "60", 60, 0, NONE);
        x = Check.of(2, Edges.STEEP);
        x.orbit(1000, 0, 0);
        roundOf(x, "few, but numbers grow", 4, 0, NONE);
    }

    private static void roundBad() {
        FiniteMatrices x = Check.of(2, Edges.SQUARE);
        for (int off : Edges.outside(0, 2)) {
            due("what " + off + ", though there is none", x.round(off), BAD);
        }
        x.orbit(1, 2, 0);
        for (int off : Edges.outside(0, 2)) {
            due("what " + off, x.round(off), BAD);
        }
    }

    private static void roundNone() {
        FiniteMatrices x = Check.of(2, Edges.SQUARE);
        for (int what = 0; what <= 2; what++) {
            due("never made, what " + what, x.round(what), NONE);
            due("a refused one is none", x.orbit(1001, 0, 0), BAD);
            due("still none, what " + what, x.round(what), NONE);
            x.orbit(1, 2, 0);
            due("there is one, what " + what, x.round(what) > 0 ? 1 : 0, 1);
            x.drop();
            due("none any more, what " + what, x.round(what), NONE);
            x.unit(0, 0, -1);
        }
    }

    // ---- 26: still

    private static void stillIs() {
        FiniteMatrices x = Check.of(3, Edges.SIGNED);
        due("all 0", x.still(0, 0, 0), 48);
        due("on an axis", x.still(0, 0, 1000), 8);
        due("on another one", x.still(-1000, 0, 0), 8);
        due("on a diagonal", x.still(-1000, 1000, -1000), 6);
        due("apart", x.still(1, 2, 3), 1);
        due("no generators", new FiniteMatrices().still(1, 2, 3), 1);
        due("100", Check.of(2, Edges.SHEAR).still(1000, 0, 0), 100);
        due("one of 100", Check.of(2, Edges.SHEAR).still(0, 1, 0), 1);
        due("great numbers", Check.of(2, Edges.STEEP).still(1000, -1000, 0), 1);
        due("100 of three rows", Check.of(3, Edges.FOUR_OF_THREE).still(0, 0, 0), 100);
    }

    private static void stillCounts() {
        FiniteMatrices one = Check.of(1, "-1;");
        due("d 1: the first counts", one.still(0, 5, 7), 2);
        due("d 1: the others do not", one.still(5, 0, 0), 1);
        FiniteMatrices two = Check.of(2, "1 0/0 -1;");
        due("d 2: the second counts", two.still(0, 5, 7), 1);
        due("d 2: the third does not", two.still(5, 0, 7), 2);
        FiniteMatrices three = Check.of(3, "1 0 0/0 1 0/0 0 -1;");
        due("d 3: the third counts", three.still(0, 5, 7), 1);
    }

    private static void stillBad() {
        for (int d = 1; d <= 3; d++) {
            FiniteMatrices x = Edges.ofSize(d);
            for (int off : Edges.outside(-1000, 1000)) {
                due("x " + off, x.still(off, 0, 0), BAD);
                due("y " + off + ", d " + d, x.still(0, off, 0), BAD);
                due("z " + off + ", d " + d, x.still(0, 0, off), BAD);
            }
            due("all at the edge", x.still(-1000, 1000, -1000), 1);
        }
    }

    private static void promises21To23() {
        Says.test("Promise 21", "How many are in THE IMAGE BY p", OrbitsEdgesTest::imageIs);
        Says.test("Promise 21", "BAD", OrbitsEdgesTest::imageBad);
        Says.test("Promise 22", "1 if it is FAITHFUL BY p, else 0", OrbitsEdgesTest::faithfulIs);
        Says.test("Promise 22", "BAD", OrbitsEdgesTest::faithfulBad);
        Says.test("Promise 23", "THE ORBIT of a POINT (x, y, z, each -1000 to 1000; the first d count) is made: how many POINTS",
                OrbitsEdgesTest::orbitIs);
        Says.test("Promise 23", "the first d count", OrbitsEdgesTest::orbitCounts);
        Says.test("Promise 23", "BAD", OrbitsEdgesTest::orbitBad);
    }

    private static void promises24To26() {
        Says.test("Promise 24", "Number i of POINT k of THE ORBIT", OrbitsEdgesTest::pointIs);
        Says.test("Promise 24", "Refused as told: BAD: also if there is none", OrbitsEdgesTest::pointBad);
        Says.test("Promise 25", "Of THE ORBIT: 0 how many POINTS, 1 1 if it is CLOSED, else 0, 2 its ROUND",
                OrbitsEdgesTest::roundIs);
        Says.test("Promise 25", "(NONE: it is not CLOSED)", OrbitsEdgesTest::roundNotClosed);
        Says.test("Promise 25", "BAD", OrbitsEdgesTest::roundBad);
        Says.test("Promise 25", "NONE: there is none", OrbitsEdgesTest::roundNone);
        Says.test("Promise 26", "How many ELEMENTS leave a POINT STILL (x, y, z likewise)", OrbitsEdgesTest::stillIs);
        Says.test("Promise 26", "(x, y, z likewise)", OrbitsEdgesTest::stillCounts);
        Says.test("Promise 26", "BAD", OrbitsEdgesTest::stillBad);
    }

    public static void main(String[] args) {
        promises21To23();
        promises24To26();
        Says.wholePromises(21, 26);
        Says.finish();
    }
}
