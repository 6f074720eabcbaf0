/** Each promise of the document by itself: ordinary calls, edges and wrong calls. */
public final class PromiseTest extends Checks {
    public static void main(String[] args) {
        newObject();
        clear();
        addPoint();
        addPointToFullShelf();
        make();
        shift();
        sum();
        mirror();
        cut();
        cutToLess();
        points();
        dimension();
        corners();
        corner();
        walls();
        wall();
        touches();
        edges();
        edgeEnd();
        degree();
        sides();
        distance();
        diameter();
        areAlike();
        shadow();
        has();
        best();
        firstBest();
        count();
        inner();
        coefficient();
        isReflexive();
        volume();
        volumeAnew();
        meanDegree();
        middle();
        isSound();
        readme();
        finish("PromiseTest");
    }

    private static void start(int promise) {
        start("promise " + promise);
    }

    /** The simplex of the corners 0, 0, 0 and 1, 2, 3 and 3, 1, 2 and 2, 3, 1 on shelf 0. */
    private static void makeTilted() {
        bench.addPoint(0, 0, 0, 0);
        bench.addPoint(0, 2, 3, 1);
        bench.addPoint(0, 3, 1, 2);
        bench.addPoint(0, 1, 2, 3);
    }

    /** Points of a shelf all at the distance that 41 is the square of: so each is a corner. */
    private static void makeRound(int shelf, int most, boolean isSteady) {
        int place = 0;
        for (int x = -6; x <= 6; x++) {
            for (int y = -6; y <= 6; y++) {
                for (int z = -6; z <= 6; z++) {
                    if (x * x + y * y + z * z == 41 && bench.points(shelf) < most) {
                        place++;
                        if (isSteady || place % 5 > 1 || place > 50) {
                            bench.addPoint(shelf, x, y, z);
                        }
                    }
                }
            }
        }
    }

    private static void newObject() {
        start(1);
        for (int s = 0; s < 4; s++) {
            due(0, bench.points(s));
            due(-1, bench.dimension(s));
        }
        due(true, bench.isSound());
        PolytopeBench other = new PolytopeBench();
        other.make(0, 'c', 1);
        due(0, bench.points(0));
    }

    private static void clear() {
        start(2);
        due(0, bench.clear(3));
        bench.make(3, 'c', 2);
        bench.make(0, 'o', 2);
        bench.addPoint(3, 0, 0, 0);
        due(9, bench.clear(3));
        due(0, bench.points(3));
        due(-1, bench.dimension(3));
        due(6, bench.points(0));
        due(0, bench.clear(3));
        due(1, bench.addPoint(3, 1, 1, 1));
        due(1, bench.clear(3));
        shelves(s -> bench.clear(s), false);
    }

    private static void addPoint() {
        start(3);
        due(1, bench.addPoint(0, 6, -6, 6));
        due(1, bench.addPoint(0, 6, -6, 6));
        due(2, bench.addPoint(0, -6, 6, -6));
        due(3, bench.addPoint(0, 0, 0, 0));
        due(1, bench.dimension(0));
        due(4, bench.addPoint(0, 0, 6, 0));
        due(5, bench.addPoint(0, 0, 6, 6));
        due(3, bench.dimension(0));
        due(4, bench.corners(0));
        due(6, bench.addPoint(0, 0, 5, 5));
        due(4, bench.corners(0));
        due(0, bench.points(1));
        shelves(s -> bench.addPoint(s, 0, 0, 0), false);
        refused(SHELF, () -> bench.addPoint(4, 7, 0, 0));
        for (int number : new int[] {7, -7, LOW, TOP}) {
            refused(KIND, () -> bench.addPoint(0, number, 0, 0));
            refused(KIND, () -> bench.addPoint(0, 0, number, 0));
            refused(KIND, () -> bench.addPoint(0, 0, 0, number));
        }
        // A point inside, on a wall and on an edge are points, but no corners; a corner may become none.
        start(3);
        bench.make(0, 'c', 2);
        due(9, bench.addPoint(0, 0, 0, 0));
        due(10, bench.addPoint(0, 2, 1, 0));
        due(11, bench.addPoint(0, 2, 2, 1));
        due(11, bench.addPoint(0, 2, 2, 2));
        due(8, bench.corners(0));
        due(12, bench.addPoint(0, 4, 4, 4));
        due(8, bench.corners(0));
        due(12, bench.points(0));
        due(4, bench.corner(0, 7, 'x'));
        due(13, bench.addPoint(0, 2, 2, 6));
        due(true, bench.isSound());
    }

    private static void addPointToFullShelf() {
        start(3);
        makeRound(0, 60, true);
        due(60, bench.points(0));
        due(60, bench.corners(0));
        refused(FULL, () -> bench.addPoint(0, 0, 0, 0));
        refused(KIND, () -> bench.addPoint(0, 0, 0, 7));
        for (int i = 0; i < 60; i++) {
            due(60, bench.addPoint(0, bench.corner(0, i, 'x'), bench.corner(0, i, 'y'), bench.corner(0, i, 'z')));
        }
        due(1, bench.addPoint(1, 0, 0, 0));
        due(true, bench.isSound());
        // The same with points on a line.
        start(3);
        for (int i = 0; i < 60; i++) {
            due(i + 1, bench.addPoint(1, i % 13 - 6, i / 13, 0));
        }
        refused(FULL, () -> bench.addPoint(1, 0, 0, 1));
        due(60, bench.addPoint(1, 0, 0, 0));
        due(2, bench.dimension(1));
    }

    private static void make() {
        start(4);
        due(8, bench.make(0, 'c', 3));
        due(" (-3 -3 -3 1) (-3 -3 3 1) (-3 3 -3 1) (-3 3 3 1) (3 -3 -3 1) (3 -3 3 1) (3 3 -3 1) (3 3 3 1)"
                + " [-1 0 0 3] [0 -1 0 3] [0 0 -1 3] [0 0 1 3] [0 1 0 3] [1 0 0 3]"
                + " 0-1 0-2 0-4 1-3 1-5 2-3 2-6 3-7 4-5 4-6 5-7 6-7", told(bench, 0));
        due(6, bench.make(0, 'o', 2));
        due(" (-2 0 0 1) (0 -2 0 1) (0 0 -2 1) (0 0 2 1) (0 2 0 1) (2 0 0 1)"
                + " [-1 -1 -1 2] [-1 -1 1 2] [-1 1 -1 2] [-1 1 1 2] [1 -1 -1 2] [1 -1 1 2] [1 1 -1 2] [1 1 1 2]"
                + " 0-1 0-2 0-3 0-4 1-2 1-3 1-5 2-4 2-5 3-4 3-5 4-5", told(bench, 0));
        due(4, bench.make(0, 's', 6));
        due(" (0 0 0 1) (0 0 6 1) (0 6 0 1) (6 0 0 1) [-1 0 0 0] [0 -1 0 0] [0 0 -1 0] [1 1 1 6]"
                + " 0-1 0-2 0-3 1-2 1-3 2-3", told(bench, 0));
        due(4, bench.points(0));
        due(8, bench.make(3, 'c', 6));
        due(4, bench.make(2, 's', 1));
        shelves(s -> bench.make(s, 'c', 1), false);
        refused(SHELF, () -> bench.make(4, 'x', 0));
        for (char kind : "CxOS\0\uffffab".toCharArray()) {
            refused(KIND, () -> bench.make(0, kind, 1));
        }
        for (int size : new int[] {0, 7, -1, LOW, TOP}) {
            refused(KIND, () -> bench.make(0, 'c', size));
            refused(KIND, () -> bench.make(1, 's', size));
        }
    }

    private static void shift() {
        start(5);
        due(0, bench.shift(0, 1, 2, 3));
        bench.make(0, 's', 1);
        bench.addPoint(0, -6, 0, 0);
        bench.addPoint(0, -1, 0, 0);
        due(6, bench.shift(0, 6, -6, 5));
        due(" (0 -6 5 1) (6 -6 6 1) (6 -5 5 1) (7 -6 5 1) [-1 6 6 -6] [0 -1 0 6] [0 0 -1 -5] [1 1 1 6]"
                + " 0-1 0-2 0-3 1-2 1-3 2-3", told(bench, 0));
        due(6, bench.addPoint(0, 5, -6, 5));
        due(true, bench.isSound());
        shelves(s -> bench.shift(s, 0, 0, 0), false);
        refused(SHELF, () -> bench.shift(4, 7, 0, 0));
        for (int number : new int[] {7, -7, LOW, TOP}) {
            refused(KIND, () -> bench.shift(0, number, 0, 0));
            refused(KIND, () -> bench.shift(0, 0, number, 0));
            refused(KIND, () -> bench.shift(0, 0, 0, number));
        }
        // Up to 2000, and not beyond it, for solids and for a point alone.
        start(5);
        bench.make(0, 'c', 2);
        bench.addPoint(1, -2, 2, 0);
        for (int i = 0; i < 333; i++) {
            due(8, bench.shift(0, 6, -6, 0));
        }
        due(2000, bench.corner(0, 7, 'x'));
        due(-2000, bench.corner(0, 0, 'y'));
        due(2000, bench.wall(0, 5, 'd'));
        refused(SIZE, () -> bench.shift(0, 1, 0, 0));
        refused(SIZE, () -> bench.shift(0, 0, -1, 0));
        due(8, bench.shift(0, 0, 0, 6));
        due(8, bench.shift(0, -1, 1, 0));
        due(true, bench.isSound());
        start(5);
        bench.addPoint(1, -2, 2, 0);
        for (int i = 0; i < 333; i++) {
            bench.shift(1, -6, 0, 6);
        }
        refused(SIZE, () -> bench.shift(1, -1, 0, 0));
        due(1, bench.shift(1, 0, 6, 2));
        refused(SIZE, () -> bench.shift(1, 0, 0, 1));
        // A point of shortest numbers with a great w goes beyond its size soon.
        start(5);
        bench.make(0, 'c', 4);
        bench.cut(0, 0, 5, -7, -5, -30);
        bench.addPoint(0, 4, -1, -4);
        bench.cut(1, 0, 8, -7, -7, -16);
        refused(SIZE, () -> bench.shift(1, 5, -5, 0));
        due(bench.corners(1), bench.shift(1, 0, 0, 0));
    }

    private static void sum() {
        start(6);
        bench.make(0, 'c', 1);
        bench.make(1, 'o', 1);
        due(24, bench.sum(2, 0, 1));
        due(24, bench.points(2));
        due(26, bench.walls(2));
        due(48, bench.edges(2));
        due(-2, bench.corner(2, 0, 'x'));
        // With itself: twice as great, and on its own shelf.
        due(8, bench.sum(0, 0, 0));
        due(8, bench.points(0));
        due(2, bench.corner(0, 7, 'z'));
        due(6, bench.sum(1, 1, 1));
        due(2, bench.wall(1, 0, 'd'));
        // Points that are no corners have no part in a sum.
        bench.make(3, 's', 1);
        bench.make(2, 'c', 1);
        bench.addPoint(2, 0, 0, 0);
        bench.addPoint(2, 1, 0, 0);
        due(13, bench.sum(2, 2, 3));
        due(13, bench.points(2));
        due(true, bench.isSound());
        // Fractions.
        start(6);
        bench.make(0, 's', 1);
        bench.cut(1, 0, 3, 3, 3, 1);
        bench.cut(2, 0, 2, 2, 2, 1);
        due(4, bench.sum(3, 1, 2));
        due(" (0 0 0 1) (0 0 5 6) (0 5 0 6) (5 0 0 6) [-1 0 0 0] [0 -1 0 0] [0 0 -1 0] [6 6 6 5]"
                + " 0-1 0-2 0-3 1-2 1-3 2-3", told(bench, 3));
        shelves(s -> bench.sum(s, 0, 1), false);
        shelves(s -> bench.sum(0, s, 0), false);
        shelves(s -> bench.sum(0, 0, s), false);
        start(6);
        bench.make(0, 'c', 1);
        refused(SHELF, () -> bench.sum(0, 1, 4));
        refused(FLAT, () -> bench.sum(3, 0, 1));
        refused(FLAT, () -> bench.sum(3, 1, 0));
        refused(FLAT, () -> bench.sum(3, 1, 1));
        sumsBeyond();
    }

    private static void sumsBeyond() {
        start(6);
        bench.make(0, 'c', 5);
        bench.make(1, 'c', 1);
        refused(FULL, () -> bench.sum(1, 1, 0));
        // Numbers beyond their size, and the same with too many sums, which is told first.
        start(6);
        bench.make(0, 'o', 6);
        bench.make(1, 's', 3);
        bench.cut(1, 0, -6, -9, 7, 28);
        refused(SIZE, () -> bench.sum(1, 1, 1));
        refused(SIZE, () -> bench.sum(2, 1, 1));
        bench.make(2, 'c', 1);
        bench.make(3, 'o', 1);
        bench.sum(2, 2, 3);
        bench.cut(2, 2, 8, 7, -9, 11);
        bench.cut(2, 2, 7, -9, 8, 5);
        due(true, greatestOfSums(1, 2) > 2000);
        refused(FULL, () -> bench.sum(0, 1, 2));
        // 64 sums of which 27 are different.
        start(6);
        bench.make(0, 'c', 6);
        due(8, bench.sum(2, 0, 0));
        // A body made greater and greater goes beyond 2000.
        start(6);
        bench.make(0, 's', 4);
        for (int i = 0; i < 8; i++) {
            due(4, bench.sum(0, 0, 0));
        }
        due(1024, bench.corner(0, 3, 'x'));
        refused(SIZE, () -> bench.sum(0, 0, 0));
    }

    /** Returns the greatest number of all sums of corners, in their shortest numbers. */
    private static long greatestOfSums(int one, int other) {
        long greatest = 0;
        for (int i = 0; i < bench.corners(one); i++) {
            for (int j = 0; j < bench.corners(other); j++) {
                long v = bench.corner(one, i, 'w');
                long w = bench.corner(other, j, 'w');
                java.math.BigInteger divisor = java.math.BigInteger.valueOf(v * w);
                long most = v * w;
                for (char c : "xyz".toCharArray()) {
                    long number = bench.corner(one, i, c) * w + bench.corner(other, j, c) * v;
                    divisor = divisor.gcd(java.math.BigInteger.valueOf(number));
                    most = Math.max(most, Math.abs(number));
                }
                greatest = Math.max(greatest, most / divisor.longValueExact());
            }
        }
        return greatest;
    }

    private static void mirror() {
        start(7);
        bench.make(0, 'c', 2);
        due(6, bench.mirror(1, 0));
        due(" (-1 0 0 2) (0 -1 0 2) (0 0 -1 2) (0 0 1 2) (0 1 0 2) (1 0 0 2)"
                + " [-2 -2 -2 1] [-2 -2 2 1] [-2 2 -2 1] [-2 2 2 1] [2 -2 -2 1] [2 -2 2 1] [2 2 -2 1] [2 2 2 1]"
                + " 0-1 0-2 0-3 0-4 1-2 1-3 1-5 2-4 2-5 3-4 3-5 4-5", told(bench, 1));
        due(8, bench.mirror(1, 1));
        due(true, told(bench, 0).equals(told(bench, 1)));
        due(6, bench.mirror(2, 1));
        due(6, bench.points(2));
        shelves(s -> bench.mirror(s, 0), false);
        shelves(s -> bench.mirror(0, s), true);
        refused(SHELF, () -> bench.mirror(4, 3));
        // 0, 0, 0 on a wall, and outside.
        bench.make(3, 's', 6);
        refused(FLAT, () -> bench.mirror(0, 3));
        bench.shift(3, 1, 1, 1);
        refused(FLAT, () -> bench.mirror(3, 3));
        bench.shift(3, -2, -2, -2);
        due(4, bench.mirror(3, 3));
        due(true, bench.isSound());
        // 60 points with more than 60 walls, and walls with numbers above 2000 among them or not.
        start(7);
        makeRound(0, 60, false);
        due(true, bench.walls(0) > 60);
        due(2, bench.has(0, 0, 0, 0));
        refused(FULL, () -> bench.mirror(1, 0));
        mirrorOfSixty();
        start(7);
        bench.make(0, 'c', 3);
        bench.make(1, 's', 5);
        bench.cut(1, 0, 7, 6, -4, -14);
        bench.sum(1, 1, 0);
        bench.cut(0, 1, 5, -4, 7, 21);
        bench.addPoint(0, 4, -3, 6);
        due(2, bench.has(0, 0, 0, 0));
        due(true, bench.walls(0) <= 60);
        refused(SIZE, () -> bench.mirror(0, 0));
        refused(SIZE, () -> bench.mirror(2, 0));
    }

    /** 60 walls make 60 points. */
    private static void mirrorOfSixty() {
        start(7);
        makeRound(bench, 0, 31, 0, 36);
        due(60, bench.walls(0));
        due(60, bench.mirror(1, 0));
        due(36, bench.walls(1));
        due(true, bench.isSound());
    }

    private static void cut() {
        start(8);
        bench.make(0, 'c', 1);
        due(10, bench.cut(1, 0, 1, 1, 1, 2));
        due(7, bench.walls(1));
        due(15, bench.edges(1));
        due(10, bench.points(1));
        // The plane through corners, and on its own shelf.
        due(7, bench.cut(0, 0, 1, 1, 1, 1));
        due(" (-1 -1 -1 1) (-1 -1 1 1) (-1 1 -1 1) (-1 1 1 1) (1 -1 -1 1) (1 -1 1 1) (1 1 -1 1)"
                + " [-1 0 0 1] [0 -1 0 1] [0 0 -1 1] [0 0 1 1] [0 1 0 1] [1 0 0 1] [1 1 1 1]"
                + " 0-1 0-2 0-4 1-3 1-5 2-3 2-6 3-5 3-6 4-5 4-6 5-6", told(bench, 0));
        bench.make(2, 'o', 1);
        due(5, bench.cut(2, 2, 0, 0, -9, 0));
        due(" (-1 0 0 1) (0 -1 0 1) (0 0 1 1) (0 1 0 1) (1 0 0 1)"
                + " [-1 -1 1 1] [-1 1 1 1] [0 0 -1 0] [1 -1 1 1] [1 1 1 1] 0-1 0-2 0-3 1-2 1-4 2-3 2-4 3-4",
                told(bench, 2));
        // What is all below stays, but for the points that are no corners.
        bench.make(3, 's', 2);
        bench.addPoint(3, 1, 0, 0);
        bench.addPoint(3, 1, 1, 0);
        due(4, bench.cut(3, 3, 9, 9, 9, 99));
        due(4, bench.points(3));
        due(4, bench.cut(3, 3, 9, 9, 9, 2));
        due(2, bench.corner(3, 3, 'x'));
        due(9, bench.corner(3, 3, 'w'));
        due(true, bench.isSound());
        shelves(s -> bench.cut(s, 0, 1, 0, 0, 0), false);
        shelves(s -> bench.cut(0, s, 1, 0, 0, 0), true);
        refused(SHELF, () -> bench.cut(0, 4, 10, 0, 0, 0));
        for (int number : new int[] {10, -10, 100, -100, LOW, TOP}) {
            refused(KIND, () -> bench.cut(0, 0, number, 1, 1, 1));
            refused(KIND, () -> bench.cut(0, 0, 1, number, 1, 1));
            refused(KIND, () -> bench.cut(0, 0, 1, 1, number, 1));
        }
        for (int number : new int[] {100, -100, LOW, TOP}) {
            refused(KIND, () -> bench.cut(0, 0, 1, 1, 1, number));
        }
        refused(KIND, () -> bench.cut(0, 0, 0, 0, 0, 1));
        bench.clear(1);
        refused(KIND, () -> bench.cut(0, 1, 0, 0, 0, 1));
        cutsBeyond();
    }

    private static void cutsBeyond() {
        start(8);
        bench.make(0, 'o', 6);
        bench.make(1, 's', 3);
        bench.cut(1, 0, 2, 3, -9, -2);
        bench.addPoint(1, 1, 6, -4);
        refused(SIZE, () -> bench.cut(0, 1, -3, 6, -6, 5));
        refused(SIZE, () -> bench.cut(1, 1, -3, 6, -6, 5));
        // 60 corners, of which a few go for more new ones.
        start(8);
        makeRound(0, 60, true);
        int low = 0;
        for (int d = 1; d < 60 && low == 0; d++) {
            low = leftBy(d) > 60 ? d : 0;
        }
        due(true, low > 0);
        int most = low;
        refused(FULL, () -> bench.cut(1, 0, 1, 2, 3, most));
        refused(FULL, () -> bench.cut(0, 0, 1, 2, 3, most));
        int fit = 0;
        for (int d = 1; d < 60 && fit == 0; d++) {
            fit = leftBy(d) == 60 ? d : 0;
        }
        if (fit > 0) {
            due(60, bench.cut(1, 0, 1, 2, 3, fit));
        }
    }

    /** Counts what is left at x + 2 y + 3 z of at most d. */
    private static int leftBy(int d) {
        int left = 0;
        int[] side = new int[bench.corners(0)];
        for (int i = 0; i < side.length; i++) {
            side[i] = bench.corner(0, i, 'x') + 2 * bench.corner(0, i, 'y') + 3 * bench.corner(0, i, 'z') - d;
            left += side[i] <= 0 ? 1 : 0;
        }
        for (int e = 0; e < bench.edges(0); e++) {
            left += side[bench.edgeEnd(0, e, false)] * side[bench.edgeEnd(0, e, true)] < 0 ? 1 : 0;
        }
        return left;
    }

    private static void cutToLess() {
        start(8);
        bench.make(0, 'c', 2);
        due(4, bench.cut(1, 0, 1, 0, 0, -2));
        due(2, bench.dimension(1));
        due(2, bench.cut(2, 0, 1, 1, 0, -4));
        due(1, bench.dimension(2));
        due(1, bench.cut(3, 0, 1, 1, 1, -6));
        due(0, bench.dimension(3));
        due(1, bench.addPoint(3, -2, -2, -2));
        due(5, bench.addPoint(1, 2, 0, 0));
        due(3, bench.dimension(1));
        due(0, bench.cut(3, 0, 1, 1, 1, -7));
        due(-1, bench.dimension(3));
        due(0, bench.cut(0, 0, -1, 0, 0, -3));
        due(0, bench.points(0));
        // A wall between whole numbers.
        bench.make(0, 'o', 1);
        due(5, bench.cut(0, 0, 2, 0, 0, -1));
        due(2, bench.corner(0, 4, 'w'));
        due(4, bench.cut(0, 0, -2, 0, 0, 1));
        due(2, bench.dimension(0));
        refused(FLAT, () -> bench.cut(1, 0, 1, 0, 0, 0));
        due(4, bench.shift(0, 1, 0, 0));
    }

    private static void points() {
        start(9);
        due(0, bench.points(2));
        bench.make(2, 'o', 3);
        bench.addPoint(2, 1, 1, 1);
        bench.addPoint(2, 1, 0, 0);
        due(8, bench.points(2));
        due(6, bench.corners(2));
        shelves(s -> bench.points(s), false);
    }

    private static void dimension() {
        start(10);
        int[][] points = {{1, 2, 3}, {3, 2, 1}, {2, 2, 2}, {5, 2, -1}, {1, 1, 1}, {3, 3, 3}, {1, 2, 2}};
        int[] due = {0, 1, 1, 1, 2, 2, 3};
        due(-1, bench.dimension(3));
        for (int i = 0; i < points.length; i++) {
            bench.addPoint(3, points[i][0], points[i][1], points[i][2]);
            due(due[i], bench.dimension(3));
        }
        bench.clear(3);
        due(-1, bench.dimension(3));
        shelves(s -> bench.dimension(s), false);
    }

    private static void corners() {
        start(11);
        bench.make(1, 'c', 1);
        bench.addPoint(1, 3, 0, 0);
        due(9, bench.corners(1));
        bench.addPoint(1, 4, 0, 0);
        due(9, bench.corners(1));
        due(10, bench.points(1));
        bench.addPoint(1, -1, 0, 1);
        due(9, bench.corners(1));
        shelves(s -> bench.corners(s), true);
    }

    private static void corner() {
        start(12);
        bench.make(0, 's', 1);
        bench.cut(0, 0, 0, 0, 2, 1);
        int[][] due = {{0, 0, 0, 1}, {0, 0, 1, 2}, {0, 1, 1, 2}, {0, 1, 0, 1}, {1, 0, 1, 2}, {1, 0, 0, 1}};
        for (int c = 0; c < 6; c++) {
            for (int i = 0; i < 4; i++) {
                due(due[c][i], bench.corner(0, c, "xyzw".charAt(i)));
            }
        }
        shelves(s -> bench.corner(s, 0, 'x'), true);
        refused(SHELF, () -> bench.corner(-1, 6, 'a'));
        refused(FLAT, () -> bench.corner(1, 6, 'a'));
        for (int number : new int[] {-1, 6, LOW, TOP}) {
            refused(NONE, () -> bench.corner(0, number, 'x'));
            refused(NONE, () -> bench.corner(0, number, 'a'));
        }
        for (char what : "avX\0\uffff".toCharArray()) {
            refused(KIND, () -> bench.corner(0, 0, what));
        }
    }

    private static void walls() {
        start(13);
        bench.make(0, 'c', 1);
        due(6, bench.walls(0));
        bench.addPoint(0, 2, 0, 0);
        due(9, bench.walls(0));
        bench.addPoint(0, 1, 1, 2);
        due(true, bench.walls(0) == 2 - bench.corners(0) + bench.edges(0));
        shelves(s -> bench.walls(s), true);
    }

    private static void wall() {
        start(14);
        makeTilted();
        int[][] due = {{-7, 5, -1, 0}, {-1, -7, 5, 0}, {1, 1, 1, 6}, {5, -1, -7, 0}};
        for (int u = 0; u < 4; u++) {
            for (int i = 0; i < 4; i++) {
                due(due[u][i], bench.wall(0, u, "abcd".charAt(i)));
            }
        }
        // A wall between whole numbers keeps the common divisor of a, b and c that d does not have.
        bench.make(1, 'c', 1);
        bench.cut(1, 1, 2, 4, 6, 5);
        bench.cut(1, 1, 2, 2, 2, 4);
        due(2, bench.wall(1, bench.walls(1) - 1, 'a'));
        due(4, bench.wall(1, bench.walls(1) - 1, 'b'));
        due(6, bench.wall(1, bench.walls(1) - 1, 'c'));
        due(5, bench.wall(1, bench.walls(1) - 1, 'd'));
        shelves(s -> bench.wall(s, 0, 'a'), true);
        refused(SHELF, () -> bench.wall(-1, 4, 'x'));
        refused(FLAT, () -> bench.wall(2, 4, 'x'));
        for (int number : new int[] {-1, 4, LOW, TOP}) {
            refused(NONE, () -> bench.wall(0, number, 'a'));
            refused(NONE, () -> bench.wall(0, number, 'x'));
        }
        for (char what : "xwA\0\uffff".toCharArray()) {
            refused(KIND, () -> bench.wall(0, 0, what));
        }
    }

    private static void touches() {
        start(15);
        bench.make(0, 'c', 1);
        bench.addPoint(0, 1, 0, 0);
        for (int i = 0; i < 8; i++) {
            due(i < 4, bench.touches(0, 0, i));
            due(i % 4 < 2, bench.touches(0, 1, i));
            due(i % 2 == 0, bench.touches(0, 2, i));
            due(i >= 4, bench.touches(0, 5, i));
        }
        shelves(s -> bench.touches(s, 0, 0), true);
        for (int number : new int[] {-1, LOW, TOP}) {
            refused(NONE, () -> bench.touches(0, number, 0));
            refused(NONE, () -> bench.touches(0, 0, number));
        }
        refused(NONE, () -> bench.touches(0, 6, 0));
        refused(NONE, () -> bench.touches(0, 0, 8));
        refused(FLAT, () -> bench.touches(1, 6, 8));
    }

    private static void edges() {
        start(16);
        bench.make(0, 'o', 1);
        due(12, bench.edges(0));
        bench.make(0, 's', 1);
        due(6, bench.edges(0));
        // A point on an edge makes no two of it.
        bench.make(0, 's', 2);
        bench.addPoint(0, 1, 1, 0);
        due(6, bench.edges(0));
        shelves(s -> bench.edges(s), true);
    }

    private static void edgeEnd() {
        start(17);
        bench.make(0, 'o', 4);
        int[][] due = {{0, 1}, {0, 2}, {0, 3}, {0, 4}, {1, 2}, {1, 3}, {1, 5}, {2, 4}, {2, 5}, {3, 4}, {3, 5}, {4, 5}};
        for (int e = 0; e < due.length; e++) {
            due(due[e][0], bench.edgeEnd(0, e, false));
            due(due[e][1], bench.edgeEnd(0, e, true));
        }
        shelves(s -> bench.edgeEnd(s, 0, true), true);
        for (int number : new int[] {-1, 12, LOW, TOP}) {
            refused(NONE, () -> bench.edgeEnd(0, number, true));
            refused(NONE, () -> bench.edgeEnd(0, number, false));
        }
        refused(FLAT, () -> bench.edgeEnd(1, -1, true));
    }

    private static void degree() {
        start(18);
        bench.make(0, 'o', 1);
        bench.cut(0, 0, 0, 0, -1, 0);
        due(4, bench.degree(0, 2));
        due(3, bench.degree(0, 0));
        due(3, bench.degree(0, 4));
        shelves(s -> bench.degree(s, 0), true);
        for (int number : new int[] {-1, 5, LOW, TOP}) {
            refused(NONE, () -> bench.degree(0, number));
        }
        refused(FLAT, () -> bench.degree(1, -1));
    }

    private static void sides() {
        start(19);
        bench.make(0, 'o', 1);
        bench.cut(0, 0, 0, 0, -1, 0);
        bench.addPoint(0, 0, 0, 0);
        due(4, bench.sides(0, 2));
        due(3, bench.sides(0, 0));
        due(3, bench.sides(0, 4));
        shelves(s -> bench.sides(s, 0), true);
        for (int number : new int[] {-1, 5, LOW, TOP}) {
            refused(NONE, () -> bench.sides(0, number));
        }
        refused(FLAT, () -> bench.sides(1, -1));
    }

    private static void distance() {
        start(20);
        bench.make(0, 'c', 1);
        for (int i = 0; i < 8; i++) {
            for (int j = 0; j < 8; j++) {
                due(Integer.bitCount(i ^ j), bench.distance(0, i, j));
            }
        }
        shelves(s -> bench.distance(s, 0, 0), true);
        for (int number : new int[] {-1, 8, LOW, TOP}) {
            refused(NONE, () -> bench.distance(0, number, 0));
            refused(NONE, () -> bench.distance(0, 0, number));
        }
        refused(FLAT, () -> bench.distance(1, -1, 0));
    }

    private static void diameter() {
        start(21);
        bench.make(0, 'c', 1);
        due(3, bench.diameter(0));
        bench.make(1, 'o', 1);
        due(2, bench.diameter(1));
        bench.make(2, 's', 1);
        due(1, bench.diameter(2));
        bench.sum(3, 0, 1);
        due(5, bench.diameter(3));
        shelves(s -> bench.diameter(s), true);
    }

    private static void areAlike() {
        start(22);
        bench.make(0, 'c', 1);
        bench.make(1, 'c', 1);
        bench.cut(1, 1, 1, 2, 9, 7);
        due(false, bench.areAlike(0, 1));
        bench.make(1, 'o', 2);
        due(false, bench.areAlike(0, 1));
        bench.mirror(1, 1);
        due(true, bench.areAlike(0, 1));
        due(true, bench.areAlike(1, 0));
        due(true, bench.areAlike(0, 0));
        shelves(s -> bench.areAlike(s, 0), true);
        shelves(s -> bench.areAlike(0, s), false);
        refused(SHELF, () -> bench.areAlike(2, 4));
        refused(FLAT, () -> bench.areAlike(0, 2));
        refused(FLAT, () -> bench.areAlike(2, 0));
        // A body and its own picture in a looking glass.
        bench.make(0, 'c', 2);
        bench.cut(0, 0, 1, 1, 1, 5);
        bench.cut(0, 0, 1, 1, -1, 5);
        bench.cut(0, 0, 1, 2, 3, 9);
        bench.make(1, 'c', 2);
        bench.cut(1, 1, -1, 1, 1, 5);
        bench.cut(1, 1, -1, 1, -1, 5);
        bench.cut(1, 1, -1, 2, 3, 9);
        due(bench.corners(0), bench.corners(1));
        due(true, bench.areAlike(0, 1));
        // The same numbers of all, but other ways: a cube with the corners of an edge cut off, and those across.
        bench.make(0, 'c', 2);
        bench.cut(0, 0, 1, 1, 1, 5);
        bench.cut(1, 0, 1, 1, -1, 5);
        bench.cut(2, 0, -1, -1, -1, 5);
        bench.cut(3, 0, 1, -1, 1, 5);
        due(bench.edges(1), bench.edges(2));
        due(false, bench.areAlike(1, 2));
        due(true, bench.areAlike(1, 3));
    }

    private static void shadow() {
        start(23);
        bench.make(0, 's', 1);
        due(3, bench.shadow(0, 'x'));
        bench.make(0, 'c', 1);
        due(4, bench.shadow(0, 'y'));
        bench.make(0, 'o', 1);
        due(4, bench.shadow(0, 'z'));
        // Points on the rim of the shadow are no corners of it.
        bench.addPoint(0, 2, 0, 2);
        due(5, bench.shadow(0, 'y'));
        due(4, bench.shadow(0, 'x'));
        due(4, bench.shadow(0, 'z'));
        shadowsOfPyramids();
        start(23);
        bench.make(0, 'o', 1);
        makeHexagon();
        due(6, bench.shadow(1, 'z'));
        due(4, bench.shadow(1, 'x'));
        shelves(s -> bench.shadow(s, 'x'), true);
        for (char axis : "wXa\0\uffff".toCharArray()) {
            refused(KIND, () -> bench.shadow(0, axis));
        }
        refused(FLAT, () -> bench.shadow(2, 'w'));
    }

    /** A corner that is in the middle of a side of the shadow, or behind another corner, is no corner of it. */
    private static void shadowsOfPyramids() {
        for (int way = 0; way < 24; way++) {
            int axis = way % 3;
            int out = way / 3 % 2 == 0 ? 3 : -3;
            int up = way / 6 % 2 == 0 ? 3 : -3;
            int side = way / 12 == 0 ? 1 : 2;
            start(23);
            addTurned(axis, side, out, 0, 0);
            addTurned(axis, side, 0, 0, 2);
            addTurned(axis, side, 0, 0, -2);
            addTurned(axis, side, 0, up, 0);
            due(3, bench.dimension(0));
            due(3, bench.shadow(0, "xyz".charAt(axis)));
            addTurned(axis, side, -out, up, 0);
            due(3, bench.shadow(0, "xyz".charAt(axis)));
            addTurned(axis, side, -out, 0, 1);
            due(3, bench.shadow(0, "xyz".charAt(axis)));
            due(6, bench.corners(0));
        }
    }

    /** Adds a point of which the first number is that of an axis, and the second that of an axis beside it. */
    private static void addTurned(int axis, int side, int first, int second, int third) {
        int[] p = new int[3];
        p[axis] = first;
        p[(axis + side) % 3] = second;
        p[(axis + 2 * side) % 3] = third;
        bench.addPoint(0, p[0], p[1], p[2]);
    }

    private static void makeHexagon() {
        int[][] round = {{2, 0}, {1, 2}, {-1, 2}, {-2, 0}, {-1, -2}, {1, -2}, {0, 2}, {0, 0}};
        for (int[] p : round) {
            bench.addPoint(1, p[0], p[1], 1);
            bench.addPoint(1, p[0], p[1], -1);
        }
    }

    private static void has() {
        start(24);
        bench.make(0, 'o', 2);
        due(2, bench.has(0, 0, 0, 0));
        due(2, bench.has(0, 1, 0, 0));
        due(1, bench.has(0, 1, 1, 0));
        due(1, bench.has(0, 0, 0, -2));
        due(0, bench.has(0, 1, 1, 1));
        due(0, bench.has(0, 1000, -1000, 1000));
        due(0, bench.has(0, 0, 0, -1000));
        bench.make(1, 'c', 1);
        bench.cut(1, 1, 2, 0, 0, 1);
        due(2, bench.has(1, 0, 0, 0));
        due(0, bench.has(1, 1, 0, 0));
        shelves(s -> bench.has(s, 0, 0, 0), true);
        for (int number : new int[] {1001, -1001, LOW, TOP}) {
            refused(KIND, () -> bench.has(0, number, 0, 0));
            refused(KIND, () -> bench.has(0, 0, number, 0));
            refused(KIND, () -> bench.has(0, 0, 0, number));
        }
        refused(FLAT, () -> bench.has(2, 1001, 0, 0));
    }

    private static void best() {
        start(25);
        bench.make(0, 'c', 3);
        due(1, bench.best(0, 99, -99, 99));
        due(2, bench.best(0, 1, 1, 0));
        due(4, bench.best(0, 0, 0, -1));
        due(8, bench.best(0, 0, 0, 0));
        bench.cut(0, 0, 2, 2, 2, 7);
        due(true, bench.best(0, 1, 1, 1) == 3);
        shelves(s -> bench.best(s, 0, 0, 0), true);
        for (int number : new int[] {100, -100, LOW, TOP}) {
            refused(KIND, () -> bench.best(0, number, 0, 0));
            refused(KIND, () -> bench.best(0, 0, number, 0));
            refused(KIND, () -> bench.best(0, 0, 0, number));
        }
        refused(FLAT, () -> bench.best(2, 100, 0, 0));
    }

    private static void firstBest() {
        start(26);
        bench.make(0, 'c', 3);
        due(5, bench.firstBest(0, 99, -99, 99));
        due(6, bench.firstBest(0, 1, 1, 0));
        due(0, bench.firstBest(0, 0, 0, -1));
        due(1, bench.firstBest(0, 0, 0, 1));
        due(0, bench.firstBest(0, 0, 0, 0));
        shelves(s -> bench.firstBest(s, 0, 0, 0), true);
        for (int number : new int[] {100, -100, LOW, TOP}) {
            refused(KIND, () -> bench.firstBest(0, number, 0, 0));
            refused(KIND, () -> bench.firstBest(0, 0, number, 0));
            refused(KIND, () -> bench.firstBest(0, 0, 0, number));
        }
        refused(FLAT, () -> bench.firstBest(2, 100, 0, 0));
    }

    private static void count() {
        start(27);
        bench.make(0, 'c', 2);
        due(1, bench.count(0, 0));
        due(125, bench.count(0, 1));
        due(729, bench.count(0, 2));
        due(2197, bench.count(0, 3));
        due(4913, bench.count(0, 4));
        bench.make(1, 'o', 1);
        due(7, bench.count(1, 1));
        due(25, bench.count(1, 2));
        bench.mirror(1, 1);
        bench.cut(1, 1, 2, 2, 2, 3);
        due(23, bench.count(1, 1));
        shelves(s -> bench.count(s, 0), true);
        for (int k : new int[] {-1, 5, LOW, TOP}) {
            refused(KIND, () -> bench.count(0, k));
        }
        // 41 * 41 * 41 is within 70000, and 49 * 49 * 49 is not.
        bench.make(2, 'c', 5);
        due(68921, bench.count(2, 4));
        bench.make(2, 'c', 6);
        due(50653, bench.count(2, 3));
        refused(SIZE, () -> bench.count(2, 4));
        refused(KIND, () -> bench.count(2, 5));
        refused(FLAT, () -> bench.count(3, 5));
        due(1, bench.count(2, 0));
        boxOfFractions();
    }

    /** The box of the body made 4 times as great is rounded, and not that of the body itself. */
    private static void boxOfFractions() {
        bench.make(2, 'c', 6);
        for (int side = 0; side < 3; side++) {
            bench.cut(2, 2, side == 0 ? -1 : 0, side == 1 ? -1 : 0, side == 2 ? -1 : 0, 5);
            bench.cut(2, 2, side == 0 ? 1 : 0, side == 1 ? 1 : 0, side == 2 ? 1 : 0, 5);
        }
        due(41 * 41 * 41, bench.count(2, 4));
        bench.make(2, 'c', 6);
        bench.cut(2, 2, 9, 0, 0, 46);
        bench.cut(2, 2, -1, 0, 0, 5);
        bench.cut(2, 2, 0, 1, 0, 5);
        bench.cut(2, 2, 0, -1, 0, 5);
        bench.cut(2, 2, 0, 0, 1, 5);
        bench.cut(2, 2, 0, 0, -1, 5);
        refused(SIZE, () -> bench.count(2, 4));
        refused(SIZE, () -> bench.inner(2, 4));
        bench.cut(3, 2, -1, 0, 0, 4);
        due(37 * 41 * 41, bench.count(3, 4));
        due(36 * 39 * 39, bench.inner(3, 4));
        bench.make(3, 'c', 6);
        bench.cut(3, 3, -9, 0, 0, 46);
        bench.cut(3, 3, 1, 0, 0, 4);
        bench.cut(3, 3, 0, -9, 0, 46);
        bench.cut(3, 3, 0, 1, 0, 5);
        bench.cut(3, 3, 0, 0, 1, 5);
        bench.cut(3, 3, 0, 0, -1, 5);
        due(37 * 41 * 41, bench.count(3, 4));
        // Just 70000 whole points, and more.
        bench.make(3, 'c', 5);
        for (int i = 0; i < 3; i++) {
            bench.sum(3, 3, 3);
        }
        bench.cut(3, 3, 1, 0, 0, 9);
        bench.cut(3, 3, 0, 1, 0, -1);
        bench.cut(2, 3, 0, 0, 1, -5);
        bench.cut(3, 3, 0, 0, 1, -6);
        due(70000, bench.count(3, 1));
        due(48 * 38 * 33, bench.inner(3, 1));
        refused(SIZE, () -> bench.count(2, 1));
        refused(SIZE, () -> bench.inner(2, 1));
        bench.clear(3);
        bench.make(2, 'c', 6);
    }

    private static void inner() {
        start(28);
        bench.make(0, 'c', 2);
        due(27, bench.inner(0, 1));
        due(343, bench.inner(0, 2));
        due(3375, bench.inner(0, 4));
        bench.make(1, 'o', 1);
        due(1, bench.inner(1, 1));
        due(7, bench.inner(1, 2));
        bench.make(1, 's', 3);
        due(0, bench.inner(1, 1));
        due(10, bench.inner(1, 2));
        shelves(s -> bench.inner(s, 1), true);
        for (int k : new int[] {-1, 0, 5, LOW, TOP}) {
            refused(KIND, () -> bench.inner(0, k));
        }
        bench.make(2, 'c', 5);
        due(59319, bench.inner(2, 4));
        bench.make(2, 'c', 6);
        refused(SIZE, () -> bench.inner(2, 4));
        refused(KIND, () -> bench.inner(2, 5));
        refused(FLAT, () -> bench.inner(3, 5));
    }

    private static void coefficient() {
        start(29);
        // (2 k + 1) to the power of 3, and (k + 1) (k + 2) (k + 3) / 6.
        bench.make(0, 'c', 1);
        bench.make(1, 's', 1);
        int[] cube = {6, 36, 72, 48};
        int[] simplex = {6, 11, 6, 1};
        for (int power = 0; power < 4; power++) {
            due(cube[power], bench.coefficient(0, power));
            due(simplex[power], bench.coefficient(1, power));
        }
        makeTilted();
        bench.make(2, 'c', 1);
        bench.cut(2, 2, 2, 0, 0, 1);
        shelves(s -> bench.coefficient(s, 0), true);
        for (int power : new int[] {-1, 4, LOW, TOP}) {
            refused(KIND, () -> bench.coefficient(1, power));
            refused(KIND, () -> bench.coefficient(2, power));
        }
        refused(NONE, () -> bench.coefficient(2, 0));
        refused(FLAT, () -> bench.coefficient(3, 4));
        // The box made 3 times as great has 37 * 37 * 37 points, and then 49 * 49 * 49.
        bench.make(0, 'c', 6);
        due(6 * 12 * 12 * 12, bench.coefficient(0, 3));
        bench.make(0, 'c', 4);
        bench.sum(0, 0, 0);
        for (int power = 0; power < 4; power++) {
            int p = power;
            refused(SIZE, () -> bench.coefficient(0, p));
        }
        bench.cut(0, 0, 2, 0, 0, 15);
        refused(NONE, () -> bench.coefficient(0, 3));
    }

    private static void isReflexive() {
        start(30);
        bench.make(0, 'c', 1);
        due(true, bench.isReflexive(0));
        bench.make(0, 'c', 2);
        due(false, bench.isReflexive(0));
        bench.make(0, 'o', 1);
        due(true, bench.isReflexive(0));
        // The mirror is whole, but the body is not.
        bench.make(0, 'c', 2);
        bench.mirror(0, 0);
        due(false, bench.isReflexive(0));
        bench.make(0, 's', 4);
        due(false, bench.isReflexive(0));
        bench.shift(0, -1, -1, -1);
        due(true, bench.isReflexive(0));
        bench.shift(0, -6, 0, 0);
        due(false, bench.isReflexive(0));
        // One wall alone that is too far.
        for (int way = 0; way < 6; way++) {
            bench.make(0, 'c', 2);
            int[][] ways = {{-1, 0, 0}, {0, -1, 0}, {0, 0, -1}, {0, 0, 1}, {0, 1, 0}, {1, 0, 0}};
            for (int u = 0; u < 6; u++) {
                bench.cut(0, 0, ways[u][0], ways[u][1], ways[u][2], u == way ? 2 : 1);
            }
            due(false, bench.isReflexive(0));
            bench.cut(0, 0, ways[way][0], ways[way][1], ways[way][2], 1);
            due(true, bench.isReflexive(0));
        }
        shelves(s -> bench.isReflexive(s), true);
    }

    private static void volume() {
        start(31);
        volumes('v');
    }

    private static void volumeAnew() {
        start(32);
        volumes('a');
    }

    private static long volumeBy(char road, int shelf, char part) {
        return road == 'v' ? bench.volume(shelf, part) : bench.volumeAnew(shelf, part);
    }

    private static void volumes(char road) {
        bench.make(0, 'c', 6);
        due(6L * 12 * 12 * 12, volumeBy(road, 0, 'n'));
        due(1L, volumeBy(road, 0, 'd'));
        bench.make(0, 'o', 3);
        due(8L * 27, volumeBy(road, 0, 'n'));
        makeRound(1, 60, true);
        long before = volumeBy(road, 1, 'n');
        for (int i = 0; i < 20; i++) {
            bench.shift(1, 6, -5, 4);
        }
        due(before, volumeBy(road, 1, 'n'));
        bench.make(0, 's', 1);
        bench.cut(0, 0, 0, 0, 2, 1);
        due(7L, volumeBy(road, 0, 'n'));
        due(8L, volumeBy(road, 0, 'd'));
        bench.shift(0, -5, 6, 6);
        due(7L, volumeBy(road, 0, 'n'));
        shelves(s -> volumeBy(road, s, 'n'), true);
        for (char part : "xND\0\uffff".toCharArray()) {
            refused(KIND, () -> volumeBy(road, 0, part));
        }
        // The least whole number that 3, 4, 5 divide is 60, and that of 7 and 9 is above it.
        bench.make(2, 'c', 1);
        bench.cut(2, 2, 3, 0, 0, 1);
        bench.cut(2, 2, 0, 4, 0, 1);
        bench.cut(2, 2, 0, 0, 5, 1);
        due(6L * 4 * 5 * 6, volumeBy(road, 2, 'n') * 60 / volumeBy(road, 2, 'd'));
        due(12L, volumeBy(road, 2, 'n'));
        due(1L, volumeBy(road, 2, 'd'));
        bench.make(2, 'c', 1);
        bench.cut(2, 2, 7, 0, 0, 1);
        bench.cut(2, 2, 0, 9, 0, 1);
        refused(SIZE, () -> volumeBy(road, 2, 'n'));
        refused(SIZE, () -> volumeBy(road, 2, 'd'));
        refused(KIND, () -> volumeBy(road, 2, 'x'));
        refused(FLAT, () -> volumeBy(road, 3, 'x'));
    }

    private static void meanDegree() {
        start(33);
        bench.make(0, 'c', 1);
        due(3f, bench.meanDegree(0));
        bench.make(0, 'o', 1);
        bench.cut(0, 0, 0, 0, -1, 0);
        due(16f / 5f, bench.meanDegree(0));
        shelves(s -> bench.meanDegree(s), true);
    }

    private static void middle() {
        start(34);
        bench.make(0, 's', 5);
        due(1.25, bench.middle(0, 'x'));
        bench.shift(0, 1, 2, -3);
        due(13 / 4.0, bench.middle(0, 'y'));
        due(-7 / 4.0, bench.middle(0, 'z'));
        bench.make(0, 's', 1);
        bench.cut(0, 0, 3, 1, 7, 1);
        double total = 0;
        for (int i = 0; i < bench.corners(0); i++) {
            total += (double) bench.corner(0, i, 'z') / (double) bench.corner(0, i, 'w');
        }
        due(total / (double) bench.corners(0), bench.middle(0, 'z'));
        shelves(s -> bench.middle(s, 'x'), true);
        for (char axis : "wXa\0\uffff".toCharArray()) {
            refused(KIND, () -> bench.middle(0, axis));
        }
        refused(FLAT, () -> bench.middle(2, 'w'));
    }

    private static void isSound() {
        start(35);
        due(true, bench.isSound());
        makeRound(0, 60, true);
        makeRound(1, 60, false);
        bench.make(2, 'c', 6);
        bench.addPoint(3, 1, 1, 1);
        due(true, bench.isSound());
        bench.shift(2, 6, 6, 6);
        bench.cut(2, 2, 7, 9, 8, 90);
        bench.addPoint(3, 1, 2, 1);
        due(true, bench.isSound());
        bench.sum(2, 2, 2);
        due(true, bench.isSound());
    }

    private static void readme() {
        start("the example of README.md");
        due(8, bench.make(0, 'c', 1));
        due(6, bench.mirror(1, 0));
        due(false, bench.areAlike(0, 1));
        due(10, bench.cut(2, 0, 1, 1, 1, 2));
        due(7, bench.walls(2));
        due(2, bench.wall(2, 6, 'd'));
        due(1, bench.corner(2, 9, 'y'));
        due(26, bench.count(2, 1));
        due(47L, bench.volume(2, 'n'));
        due(1L, bench.volume(2, 'd'));
        due(1, bench.addPoint(3, 1, 2, 3));
        due(0, bench.dimension(3));
        refused(FLAT, () -> bench.walls(3));
        due(true, bench.isSound());
    }
}
