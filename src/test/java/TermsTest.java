import java.util.function.Consumer;

/** The sentences under 'Terms' one by one: bodies, numbers and their sizes, order, making, counting, volumes. */
public final class TermsTest extends Checks {
    /** Cuts that bring x, or w, just to its size and just beyond it: kind, size, and a, b, c, d three times. */
    private static final int[] CUT_X_2000 = {'c', 4, 9, 8, -8, 16, -1, 9, 2, -18, 5, 3, 7, -4};
    private static final int[] CUT_X_2001 = {'c', 6, 4, 4, 9, -13, 9, 2, -3, 28, 6, -3, 9, 4};
    private static final int[] CUT_W_2000 = {'c', 1, 8, 8, 6, 3, 9, -8, 8, 2, 9, -4, -7, 4};
    private static final int[] CUT_W_2001 = {'o', 1, -7, 8, -5, 0, 9, 9, 7, 0, 9, 3, -8, -4};
    /** 60 points, all corners, and no four of them on a wall: no body on a shelf has more walls and edges. */
    private static final int[] GREATEST = {
        -2, 3, -5, -5, 2, 5, 5, 0, 4, 4, 4, -3, 4, -3, 4, 4, 2, 4, 2, 6, -1, -5, 3, -3, 1, 2, -6, 0, 5, 4, -3, -5, 3,
        0, -4, -5, 1, -6, 2, -2, -1, 6, -3, 4, -4, -4, 4, -3, -5, -3, 3, 6, -2, 0, 3, -4, 4, -6, 1, 3, 3, -2, -5, 5,
        4, 0, -1, -4, -5, -1, -6, 1, -2, -5, 4, -6, 2, 3, 2, -1, -6, -4, 1, -5, -5, 4, -1, 2, 1, 6, -1, 6, -2, -4, -5,
        -1, -4, -3, -4, -3, 4, 4, -4, 4, 3, 4, -5, 1, 5, 3, -3, -6, 2, 0, 1, -3, 6, 6, 1, 2, -1, -4, 5, 4, 5, 0, -2,
        -3, -5, 1, 4, -5, 3, -4, -4, 5, -4, -1, -5, 1, -4, 3, -5, 3, 3, 5, 3, -3, 5, 2, 5, 4, -2, 3, 1, -6, 0, -5, -4,
        -4, 5, 0, -4, 0, 5, -5, -3, -1, -5, -4, 0, 5, 1, -3, 1, 5, 4, 6, -2, 1};

    public static void main(String[] args) {
        shelvesApart();
        greatestBody();
        dimensions();
        lesserBodies();
        shortestNumbers();
        shiftToTheirSize();
        fractionsToTheirSize();
        sumToItsSize();
        mirrorToItsSize();
        cutToItsSize();
        wallsToTheirSize();
        addPointToWallSize();
        sumToWallSize();
        order();
        sumOfItself();
        madeInPlace();
        cutOfNothing();
        cutOfEverything();
        cutToCorner();
        cutToEdge();
        cutToWall();
        pointsThatAreNoCorners();
        fractionsThatAreNoCorners();
        madeNoTimesAsGreat();
        countOfFractions();
        boxToItsSize();
        boxRounded();
        polynomial();
        leastCommonW();
        reflexive();
        alikeByNumbersAlone();
        finish("TermsTest");
    }

    private static void shelvesApart() {
        start("There are the shelves 0 to 3, each with a body: none at first");
        for (int s = 0; s < 4; s++) {
            due(0, bench.points(s));
            due(-1, bench.dimension(s));
            due(0, bench.clear(s));
            due(0, bench.shift(s, 6, 6, 6));
            due(-1, bench.dimension(s));
        }
        for (int s = 0; s < 4; s++) {
            bench.make(s, 'o', s + 1);
        }
        for (int s = 0; s < 4; s++) {
            due(s + 1, bench.corner(s, 5, 'x'));
        }
        bench.clear(1);
        bench.shift(2, 1, 0, 0);
        due(6, bench.points(0));
        due(4, bench.corner(2, 5, 'x'));
        due(4, bench.corner(3, 5, 'x'));
    }

    private static void greatestBody() {
        start("At most 60 points can be on a shelf: all of them corners, with three on each wall", x -> {
            addPoints(x, 0, GREATEST);
            for (int i = 59; i >= 0; i--) {
                x.addPoint(1, GREATEST[3 * i + 1], -GREATEST[3 * i + 2], GREATEST[3 * i]);
            }
            x.shift(1, 5, 6, -6);
        });
        for (int s = 0; s < 2; s++) {
            due(60, bench.points(s));
            due(60, bench.corners(s));
            due(116, bench.walls(s));
            due(174, bench.edges(s));
            due(348f / 60f, bench.meanDegree(s));
            for (int u = 0; u < 116; u++) {
                due(3, bench.sides(s, u));
            }
            int ends = 0;
            for (int i = 0; i < 60; i++) {
                ends += bench.degree(s, i);
            }
            due(348, ends);
        }
        due(true, bench.areAlike(0, 0));
        due(true, bench.areAlike(0, 1));
        due(true, bench.areAlike(1, 0));
        due(bench.diameter(0), bench.diameter(1));
        due(bench.volume(0, 'n'), bench.volumeAnew(1, 'n'));
        due(bench.inner(0, 1), bench.inner(1, 1));
        due(60, bench.cut(2, 0, 1, 1, 1, 99));
        due(told(bench, 0), told(bench, 2));
        due(true, bench.isSound());
        refusedAndForgotten(FULL, () -> bench.mirror(2, 0));
        refusedAndForgotten(FULL, () -> bench.sum(2, 0, 1));
        refusedAndForgotten(FULL, () -> bench.addPoint(0, 6, 6, 6));
    }

    private static void dimensions() {
        start("-1 without points, 0 for one point, 1 if all are on a line, 2 if all are in a plane, else 3");
        int[][] ways = {{1, 0, 0, 0, 1, 0, 0, 0, 1}, {0, 0, 1, 1, 0, 0, 0, 1, 0}, {1, 1, 1, 1, -1, 0, 0, 1, -1},
            {1, -1, 1, -1, -1, 1, 1, 1, 1}, {0, 1, -1, 1, 0, 1, 1, 1, 1}};
        for (int[] way : ways) {
            again();
            for (int i = -3; i <= 3; i++) {
                bench.addPoint(0, way[0] * i, way[1] * i, way[2] * i);
                bench.addPoint(0, way[0] * i, way[1] * i, way[2] * i);
                due(i == -3 ? 0 : 1, bench.dimension(0));
            }
            due(7, bench.points(0));
            for (int i = -3; i <= 3; i++) {
                bench.addPoint(0, way[0] * i + way[3], way[1] * i + way[4], way[2] * i + way[5]);
                due(2, bench.dimension(0));
            }
            due(14, bench.points(0));
            bench.addPoint(0, way[6], way[7], way[8]);
            due(3, bench.dimension(0));
            bench.clear(0);
            due(-1, bench.dimension(0));
        }
        start("2 if all are in a plane: 60 points, and a point beside them");
        for (int i = 0; i < 59; i++) {
            bench.addPoint(0, i % 10 - 5, i / 10 - 3, i / 10 - 3);
        }
        due(2, bench.dimension(0));
        bench.addPoint(0, 0, 1, 0);
        due(3, bench.dimension(0));
        due(60, bench.points(0));
        due(true, bench.isSound());
    }

    private static Call[] readingCalls(int s) {
        return new Call[] {() -> bench.corners(s), () -> bench.corner(s, 0, 'x'), () -> bench.walls(s),
            () -> bench.wall(s, 0, 'a'), () -> bench.touches(s, 0, 0), () -> bench.edges(s),
            () -> bench.edgeEnd(s, 0, false), () -> bench.degree(s, 0), () -> bench.sides(s, 0),
            () -> bench.distance(s, 0, 0), () -> bench.diameter(s), () -> bench.areAlike(s, s),
            () -> bench.shadow(s, 'x'), () -> bench.has(s, 0, 0, 0), () -> bench.best(s, 0, 0, 1),
            () -> bench.firstBest(s, 0, 0, 1), () -> bench.count(s, 1), () -> bench.inner(s, 1),
            () -> bench.coefficient(s, 1), () -> bench.isReflexive(s), () -> bench.volume(s, 'n'),
            () -> bench.volumeAnew(s, 'n'), () -> bench.meanDegree(s), () -> bench.middle(s, 'x')};
    }

    private static Call[] makingCalls(int s) {
        return new Call[] {() -> bench.sum(s, s, s), () -> bench.mirror(s, s), () -> bench.cut(s, s, 1, 0, 0, 1)};
    }

    private static void lesserBodies() {
        String told = "All that is told of corners, walls and edges is for bodies of the dimension 3";
        forLesser(told, -1, x -> { });
        forLesser(told, 0, x -> x.addPoint(1, 0, 0, 0));
        forLesser(told, 1, x -> addPoints(x, 1, -1, -1, -1, 1, 1, 1, 0, 0, 0, 2, 2, 2));
        forLesser(told, 2, x -> addPoints(x, 1, -1, 0, 0, 1, 0, 0, 0, 1, 0, 0, -1, 0, 0, 0, 0, 1, 1, 0));
        // The same, made by cuts of a cube, and once of the dimension 3.
        forLesser(told, 2, x -> cutCube(x, 1, 0, 0, -2));
        forLesser(told, 1, x -> cutCube(x, 0, -1, 1, -4));
        forLesser(told, 0, x -> cutCube(x, 1, 1, -1, -6));
        forLesser(told, -1, x -> cutCube(x, 1, 1, -1, -7));
        forLesser(told, -1, x -> {
            x.make(1, 'c', 1);
            x.clear(1);
        });
        start(told, x -> x.make(1, 'c', 1));
        for (Call call : readingCalls(1)) {
            allowed(call);
        }
        for (Call call : makingCalls(1)) {
            allowed(call);
        }
    }

    private static void cutCube(PolytopeBench x, int a, int b, int c, int d) {
        x.make(1, 'c', 2);
        x.cut(1, 1, a, b, c, d);
    }

    private static void forLesser(String told, int dimension, Consumer<PolytopeBench> first) {
        start(told, first);
        due(dimension, bench.dimension(1));
        for (Call call : readingCalls(1)) {
            refusedAndForgotten(FLAT, call);
        }
        for (Call call : makingCalls(1)) {
            refusedAndForgotten(FLAT, call);
        }
        due(true, bench.isSound());
    }

    private static void shortestNumbers() {
        start("x, y, z and w, w above 0, without a common divisor above 1", x -> {
            x.make(0, 's', 6);
            x.cut(1, 0, 4, 4, 4, 6);
            x.cut(2, 0, -4, -4, -4, -6);
        });
        due(" (0 0 0 1) (0 0 3 2) (0 3 0 2) (3 0 0 2) [-1 0 0 0] [0 -1 0 0] [0 0 -1 0] [2 2 2 3]"
                + " 0-1 0-2 0-3 1-2 1-3 2-3", told(bench, 1));
        due(3, bench.corner(2, 0, 'z'));
        due(2, bench.corner(2, 0, 'w'));
        due(true, hasWall(2, -2, -2, -2, -3));
        // Halves summed are whole again, and a shift leaves w as it is.
        due(4, bench.sum(3, 1, 1));
        due(3, bench.corner(3, 3, 'x'));
        due(1, bench.corner(3, 3, 'w'));
        due(true, hasWall(3, 1, 1, 1, 3));
        bench.shift(1, -2, 0, 0);
        due(-1, bench.corner(1, 3, 'x'));
        due(2, bench.corner(1, 3, 'w'));
        due(true, hasWall(1, 2, 2, 2, -1));
        // The mirror of a wall with d of 3 and a, b, c of 3 has a w of 1.
        bench.make(0, 'o', 3);
        bench.mirror(1, 0);
        due(3, bench.corner(1, 0, 'w'));
        due(-1, bench.corner(1, 0, 'x'));
        due(true, hasWall(1, 3, 0, 0, 1));
    }

    /** Tells a number of the axes x, y and z, with a sign, in turns. */
    private static int at(int axis, int place, int number) {
        return axis == place ? number : 0;
    }

    private static void shiftToTheirSize() {
        for (int side = 0; side < 6; side++) {
            int axis = side % 3;
            int sign = side < 3 ? 1 : -1;
            start("None of the numbers of a point is beyond 2000 either way: shift", x -> {
                makeGreat(x, 0, 'o', 1994);
                x.addPoint(1, at(axis, 0, 2 * sign), at(axis, 1, 2 * sign), at(axis, 2, 2 * sign));
                x.addPoint(2, at(axis, 0, 2 * sign), at(axis, 1, 2 * sign), at(axis, 2, 2 * sign));
                x.addPoint(2, 0, 0, 0);
                for (int s = 1; s < 3; s++) {
                    shiftFar(x, s, at(axis, 0, 1992 * sign), at(axis, 1, 1992 * sign), at(axis, 2, 1992 * sign));
                }
            });
            for (int s = 0; s < 3; s++) {
                int shelf = s;
                int by = 6 * sign;
                due(bench.points(s), bench.shift(s, at(axis, 0, by), at(axis, 1, by), at(axis, 2, by)));
                refused(SIZE, () -> bench.shift(shelf, at(axis, 0, sign), at(axis, 1, sign), at(axis, 2, sign)));
                refused(SIZE, () -> bench.shift(shelf, at(axis, 0, by), at(axis, 1, by), at(axis, 2, by)));
                due(bench.points(s), bench.shift(s, at(axis, 0, -by), at(axis, 1, -by), at(axis, 2, -by)));
            }
        }
    }

    private static void fractionsToTheirSize() {
        int[][] runs = {{9, 2, 222, 2000}, {7, 6, 285, 2001}, {9, 7, -223, -2000}, {8, 7, -251, -2001}};
        for (int[] run : runs) {
            for (int axis = 0; axis < 3; axis++) {
                int last = axis;
                start("None of the numbers of a point is beyond 2000 either way: fractions", x -> {
                    x.make(0, 's', 1);
                    x.cut(0, 0, at(last, 0, run[0]), at(last, 1, run[0]), at(last, 2, run[0]), run[1]);
                    int far = run[2] - Integer.signum(run[2]);
                    shiftFar(x, 0, at(last, 0, far), at(last, 1, far), at(last, 2, far));
                });
                int by = Integer.signum(run[2]);
                Call call = () -> bench.shift(0, at(last, 0, by), at(last, 1, by), at(last, 2, by));
                if (Math.abs(run[3]) > 2000) {
                    refusedAndForgotten(SIZE, call);
                } else {
                    due(6, call.answer());
                    due(3, countOf(0, "xyz".charAt(axis), run[3]));
                }
            }
        }
    }

    /** Counts the corners that have a number. */
    private static int countOf(int s, char what, int number) {
        int found = 0;
        for (int i = 0; i < bench.corners(s); i++) {
            found += bench.corner(s, i, what) == number ? 1 : 0;
        }
        return found;
    }

    private static void sumToItsSize() {
        for (int side = 0; side < 6; side++) {
            int axis = side % 3;
            int sign = side < 3 ? 1 : -1;
            start("None of the numbers of a point is beyond 2000 either way: sum", x -> {
                makeGreat(x, 0, 'o', 1990);
                x.shift(0, at(axis, 0, 6 * sign), at(axis, 1, 6 * sign), at(axis, 2, 6 * sign));
                x.make(1, 'o', 4);
                x.make(2, 'o', 5);
                x.make(3, 's', 1);
            });
            due(6, bench.sum(1, 0, 1));
            due(1, countOf(1, "xyz".charAt(axis), 2000 * sign));
            refusedAndForgotten(SIZE, () -> bench.sum(2, 0, 2));
            refusedAndForgotten(SIZE, () -> bench.sum(0, 2, 0));
            refusedAndForgotten(SIZE, () -> bench.sum(3, 0, 0));
        }
        start("None of the numbers of a point is beyond 2000 either way: w of a sum", x -> {
            makeCornerTip(x, 0, 125);
            makeCornerTip(x, 1, 16);
        });
        bench.sum(2, 0, 1);
        due(true, countOf(2, 'w', 2000) > 0);
        start("None of the numbers of a point is beyond 2000 either way: w of a sum", x -> {
            makeCornerTip(x, 0, 87);
            makeCornerTip(x, 1, 23);
        });
        refusedAndForgotten(SIZE, () -> bench.sum(2, 0, 1));
        refusedAndForgotten(SIZE, () -> bench.sum(0, 0, 1));
    }

    /** Makes a simplex of which all corners have one w. */
    private static void makeCornerTip(PolytopeBench x, int shelf, int w) {
        makeGreat(x, shelf, 's', 4 * w);
        shiftFar(x, shelf, -w, -w, -w);
        x.mirror(shelf, shelf);
    }

    private static void mirrorToItsSize() {
        start("None of the numbers of a point is beyond 2000 either way: w of a mirror", x -> {
            makeGreat(x, 0, 'o', 2000);
            makeGreat(x, 1, 'o', 1999);
            x.shift(1, 1, 1, 0);
        });
        due(8, bench.mirror(2, 0));
        due(8, countOf(2, 'w', 2000));
        due(6, bench.mirror(2, 2));
        due(all(bench).split("\n")[0], all(bench).split("\n")[2]);
        due(true, hasWall(1, 1, 1, 1, 2001));
        refusedAndForgotten(SIZE, () -> bench.mirror(2, 1));
        refusedAndForgotten(SIZE, () -> bench.mirror(1, 1));
        for (int side = 0; side < 12; side++) {
            int axis = side % 3;
            int sign = side / 3 % 2 == 0 ? 1 : -1;
            int most = side < 6 ? 2000 : 2001;
            start("None of the numbers of a point is beyond 2000 either way: mirror",
                    x -> makeSteep(x, axis, sign, most));
            due(2, bench.has(0, 0, 0, 0));
            due(1, wallsWith("abc".charAt(axis), most * sign));
            if (most == 2000) {
                due(bench.walls(0), bench.mirror(1, 0));
                due(1, countOf(1, "xyz".charAt(axis), most * sign));
                due(6, bench.mirror(1, 1));
                due(all(bench).split("\n")[0], all(bench).split("\n")[1]);
            } else {
                refusedAndForgotten(SIZE, () -> bench.mirror(1, 0));
                refusedAndForgotten(SIZE, () -> bench.mirror(0, 0));
            }
        }
    }

    private static int wallsWith(char what, int number) {
        int found = 0;
        for (int u = 0; u < bench.walls(0); u++) {
            found += bench.wall(0, u, what) == number ? 1 : 0;
        }
        return found;
    }

    /** Makes a flat body with a wall that is steep against an axis: through 0, 6 and 1, 6 - most of two axes. */
    private static void makeSteep(PolytopeBench x, int axis, int sign, int most) {
        addTwo(x, axis, sign, -6);
        int up = (axis + 1) % 3;
        int by = 12 - most;
        shiftFar(x, 0, at(up, 0, by), at(up, 1, by), at(up, 2, by));
        addTwo(x, axis, 0, 6);
        addTwo(x, axis, -sign, 0);
    }

    private static void addTwo(PolytopeBench x, int axis, int along, int up) {
        for (int third = -1; third <= 1; third += 2) {
            int[] p = new int[3];
            p[axis] = along;
            p[(axis + 1) % 3] = up;
            p[(axis + 2) % 3] = third;
            x.addPoint(0, p[0], p[1], p[2]);
        }
    }

    private static void cutToItsSize() {
        for (int side = 0; side < 6; side++) {
            int axis = side % 3;
            int sign = side < 3 ? 1 : -1;
            String told = "None of the numbers of a point is beyond 2000 either way: cut";
            start(told, x -> cutTwice(x, CUT_X_2000, axis, sign));
            due(8, cutLast(1, CUT_X_2000, axis, sign));
            char what = "xyz".charAt(axis);
            due(1, countOf(1, what, 2000) + countOf(1, what, -2000));
            start(told, x -> cutTwice(x, CUT_X_2001, axis, sign));
            refusedAndForgotten(SIZE, () -> cutLast(1, CUT_X_2001, axis, sign));
            refusedAndForgotten(SIZE, () -> cutLast(0, CUT_X_2001, axis, sign));
            start(told, x -> cutTwice(x, CUT_W_2000, axis, sign));
            due(12, cutLast(0, CUT_W_2000, axis, sign));
            due(1, countOf(0, 'w', 2000));
            start(told, x -> cutTwice(x, CUT_W_2001, axis, sign));
            refusedAndForgotten(SIZE, () -> cutLast(1, CUT_W_2001, axis, sign));
            refusedAndForgotten(SIZE, () -> cutLast(0, CUT_W_2001, axis, sign));
        }
    }

    private static void cutTwice(PolytopeBench x, int[] cuts, int axis, int sign) {
        x.make(0, (char) cuts[0], cuts[1]);
        cutBy(x, 0, cuts, 2, axis, sign);
        cutBy(x, 0, cuts, 6, axis, sign);
    }

    private static Object cutLast(int to, int[] cuts, int axis, int sign) {
        return cutBy(bench, to, cuts, 10, axis, sign);
    }

    /** Cuts with the numbers a, b, c turned, so that what is along x in the row is along another axis. */
    private static int cutBy(PolytopeBench x, int to, int[] cuts, int from, int axis, int sign) {
        int[] n = new int[3];
        for (int i = 0; i < 3; i++) {
            n[(i + axis) % 3] = sign * cuts[from + i];
        }
        return x.cut(to, 0, n[0], n[1], n[2], cuts[from + 3]);
    }

    /**
     * Adds three points far from each other, which are in the plane x - 871201 y - 872522 z = -1000000000, moved by
     * some along x; the axes are turned as told. A fourth point makes a body of the dimension 3, at the side that is
     * told: 1 above, -1 below, 0 none.
     */
    private static void makeFarPlane(PolytopeBench x, int turn, int side, int more) {
        addTurned(x, 0, turn, 2, -4, -3);
        shiftTurned(x, turn, 660, 660, -660);
        addTurned(x, 0, turn, 0, -4, -4);
        shiftTurned(x, turn, 660, -660, 660);
        addTurned(x, 0, turn, 1, -3, -4);
        if (side != 0) {
            addTurned(x, 0, turn, 0, side > 0 ? -6 : 0, side > 0 ? -6 : 0);
        }
        shiftTurned(x, turn, -620 + more, 596, 558);
    }

    /** Tells three numbers of which the first is that of another axis. */
    private static int[] turned(int turn, int... numbers) {
        int[] found = new int[3];
        for (int i = 0; i < 3; i++) {
            found[(i + turn) % 3] = numbers[i];
        }
        return found;
    }

    private static int addTurned(PolytopeBench x, int shelf, int turn, int... numbers) {
        int[] p = turned(turn, numbers);
        return x.addPoint(shelf, p[0], p[1], p[2]);
    }

    private static void shiftTurned(PolytopeBench x, int turn, int... numbers) {
        int[] by = turned(turn, numbers);
        shiftFar(x, 0, by[0], by[1], by[2]);
    }

    private static int shiftOnce(int shelf, int turn, int... numbers) {
        int[] by = turned(turn, numbers);
        return bench.shift(shelf, by[0], by[1], by[2]);
    }

    private static boolean hasFarWall(int shelf, int turn, int sign, int d) {
        int[] n = turned(turn, sign, -sign * 871201, -sign * 872522);
        return hasWall(shelf, n[0], n[1], n[2], d);
    }

    private static void wallsToTheirSize() {
        for (int way = 0; way < 6; way++) {
            int turn = way % 3;
            int s = way < 3 ? 1 : -1;
            start("None of a wall beyond 1000000000: shift", x -> makeFarPlane(x, turn, s, 0));
            due(3, bench.dimension(0));
            due(true, hasFarWall(0, turn, -s, s * 1000000000));
            refused(SIZE, () -> shiftOnce(0, turn, -1, 0, 0));
            refused(SIZE, () -> shiftOnce(0, turn, 0, 1, 0));
            refused(SIZE, () -> shiftOnce(0, turn, 6, 6, 6));
            due(4, bench.shift(0, 0, 0, 0));
            due(4, shiftOnce(0, turn, 1, 0, 0));
            due(true, hasFarWall(0, turn, -s, s * 999999999));
            due(4, shiftOnce(0, turn, -1, 0, 0));
            refused(SIZE, () -> shiftOnce(0, turn, -1, 0, 0));
            due(4, shiftOnce(0, turn, 0, 0, -1));
            due(true, bench.isSound());
            refusedAndForgotten(SIZE, () -> shiftOnce(0, turn, -1, 0, 0));
        }
        // Walls are told of bodies of the dimension 3 alone: points in a plane go on.
        start("All walls of a body of the dimension 3", x -> makeFarPlane(x, 0, 0, 0));
        due(2, bench.dimension(0));
        due(3, bench.shift(0, -1, 0, 0));
        due(3, bench.shift(0, -6, 6, 6));
        due(2, bench.dimension(0));
    }

    private static void addPointToWallSize() {
        for (int axis = 0; axis < 3; axis++) {
            int turn = axis;
            start("None of a wall beyond 1000000000: addPoint", x -> makeFarPlane(x, turn, 0, 0));
            due(4, bench.addPoint(0, 0, 0, 0));
            due(3, bench.dimension(0));
            due(true, hasFarWall(0, turn, -1, 1000000000));
            start("None of a wall beyond 1000000000: addPoint", x -> makeFarPlane(x, turn, 0, -1));
            due(3, bench.points(0));
            due(2, bench.dimension(0));
            refusedAndForgotten(SIZE, () -> bench.addPoint(0, 0, 0, 0));
            refusedAndForgotten(SIZE, () -> bench.addPoint(0, 6, -6, 6));
            refusedAndForgotten(KIND, () -> bench.addPoint(0, 0, 7, 0));
            refusedAndForgotten(SHELF, () -> bench.addPoint(4, 0, 0, 0));
            refused(SIZE, () -> bench.addPoint(0, 1, 2, 3));
            due(3, bench.points(0));
            due(3, shiftOnce(0, turn, 1, 0, 0));
            due(4, bench.addPoint(0, 1, 2, 3));
        }
    }

    private static void sumToWallSize() {
        for (int axis = 0; axis < 3; axis++) {
            int turn = axis;
            start("None of a wall beyond 1000000000: sum", x -> {
                makeFarPlane(x, turn, 1, 0);
                addTurned(x, 1, turn, 0, 0, 0);
                addTurned(x, 1, turn, 1, 0, 0);
                addTurned(x, 1, turn, 0, -1, 0);
                addTurned(x, 1, turn, 0, 0, -1);
            });
            bench.sum(2, 0, 1);
            due(true, hasFarWall(2, turn, -1, 1000000000));
            shiftOnce(1, turn, -1, 0, 0);
            refused(SIZE, () -> bench.sum(2, 0, 1));
            refused(SIZE, () -> bench.sum(0, 0, 1));
            refused(SIZE, () -> bench.sum(1, 1, 0));
            start("None of a wall beyond 1000000000: sum", x -> {
                makeFarPlane(x, turn, -1, 0);
                x.make(1, 's', 1);
            });
            shiftOnce(1, turn, -1, 0, 0);
            bench.sum(2, 0, 1);
            due(true, hasFarWall(2, turn, 1, -1000000000));
            shiftOnce(1, turn, -1, 0, 0);
            refused(SIZE, () -> bench.sum(2, 0, 1));
            refused(SIZE, () -> bench.sum(0, 1, 0));
            refused(SIZE, () -> bench.sum(3, 0, 0));
        }
    }

    private static void order() {
        start("numbered from 0, by x / w, then y / w, then z / w");
        makeMany(shelf -> {
            for (int i = 1; i < bench.corners(shelf); i++) {
                int order = 0;
                for (char c : "xyz".toCharArray()) {
                    long low = (long) bench.corner(shelf, i - 1, c) * bench.corner(shelf, i, 'w');
                    long high = (long) bench.corner(shelf, i, c) * bench.corner(shelf, i - 1, 'w');
                    order = order == 0 ? Long.compare(low, high) : order;
                }
                due(-1, order);
            }
        });
        start("Walls are numbered from 0, by a, then b, c and d");
        makeMany(shelf -> {
            for (int u = 1; u < bench.walls(shelf); u++) {
                int order = 0;
                for (char c : "abcd".toCharArray()) {
                    order = order == 0 ? Integer.compare(bench.wall(shelf, u - 1, c), bench.wall(shelf, u, c)) : order;
                }
                due(-1, order);
            }
        });
        start("numbered by the lower corner, then the higher one");
        makeMany(shelf -> {
            for (int e = 0; e < bench.edges(shelf); e++) {
                due(true, bench.edgeEnd(shelf, e, false) < bench.edgeEnd(shelf, e, true));
                if (e > 0) {
                    due(true, 60 * bench.edgeEnd(shelf, e - 1, false) + bench.edgeEnd(shelf, e - 1, true)
                            < 60 * bench.edgeEnd(shelf, e, false) + bench.edgeEnd(shelf, e, true));
                }
            }
        });
        start("at most d, and those of the wall just d");
        makeMany(shelf -> {
            for (int u = 0; u < bench.walls(shelf); u++) {
                int on = 0;
                for (int i = 0; i < bench.corners(shelf); i++) {
                    long side = -(long) bench.wall(shelf, u, 'd') * bench.corner(shelf, i, 'w');
                    for (int c = 0; c < 3; c++) {
                        side += (long) bench.wall(shelf, u, "abc".charAt(c)) * bench.corner(shelf, i, "xyz".charAt(c));
                    }
                    due(true, side <= 0);
                    due(side == 0, bench.touches(shelf, u, i));
                    on += side == 0 ? 1 : 0;
                }
                due(on, bench.sides(shelf, u));
            }
        });
    }

    /** Bodies of many kinds, on shelf 0, for the same question of each. */
    private static void makeMany(java.util.function.IntConsumer question) {
        int[][] cuts = {CUT_X_2000, CUT_W_2000, {'c', 2, 1, 1, 1, 4, 2, 2, -2, 7, 3, 1, 0, 7},
            {'o', 3, 2, 2, 1, 5, -1, -1, 3, 5, 3, 2, -1, 4}, {'s', 6, 7, 8, 9, 20, -9, -8, 1, -1, 1, -1, 1, 1}};
        for (int[] cut : cuts) {
            for (int side = 0; side < 6; side++) {
                again();
                cutTwice(bench, cut, side % 3, cut[0] == 's' || side < 3 ? 1 : -1);
                cutLast(0, cut, side % 3, cut[0] == 's' || side < 3 ? 1 : -1);
                if (bench.dimension(0) == 3) {
                    question.accept(0);
                    bench.addPoint(0, 5, -4, 6);
                    question.accept(0);
                }
            }
        }
        for (int step = 5; step < 60; step += 6) {
            again();
            makeRound(bench, 0, step, 0, 40);
            question.accept(0);
            bench.shift(0, -3, 2, 6);
            question.accept(0);
        }
    }

    private static void sumOfItself() {
        start("a sum of a shelf with itself is twice as great");
        makeMany(shelf -> {
            if (bench.corners(0) > 10) {
                return;
            }
            bench.clear(1);
            if (outcome(() -> bench.sum(1, 0, 0)) instanceof Class) {
                return;
            }
            due(bench.corners(0), bench.corners(1));
            due(bench.corners(0), bench.points(1));
            for (int i = 0; i < bench.corners(0); i++) {
                for (char c : "xyz".toCharArray()) {
                    due(2L * bench.corner(0, i, c) * bench.corner(1, i, 'w'),
                            (long) bench.corner(1, i, c) * bench.corner(0, i, 'w'));
                }
            }
            due(true, bench.areAlike(0, 1));
            bench.sum(0, 0, 0);
            due(told(bench, 1), told(bench, 0));
        });
    }

    private static void madeInPlace() {
        Consumer<PolytopeBench> first = x -> {
            x.make(0, 'o', 2);
            x.cut(0, 0, 1, 2, 0, 3);
            addPoints(x, 0, 0, 0, 0, 1, 0, 0);
            x.make(1, 's', 3);
            x.shift(1, -1, 0, 0);
            x.addPoint(1, 0, 1, 0);
            x.make(2, 'c', 1);
            x.make(3, 'c', 1);
        };
        start("a sum that comes to a shelf that it is made of", first);
        bench.sum(2, 0, 1);
        String want = told(bench, 2);
        for (int run = 0; run < 5; run++) {
            again();
            String[] before = all(bench).split("\n");
            int to = run < 4 ? run : 0;
            int one = run == 4 ? 1 : 0;
            due(bench.corners(0) > 0, bench.sum(to, one, 1 - one) > 0);
            due(want, told(bench, to));
            due(bench.points(to), bench.corners(to));
            String[] after = all(bench).split("\n");
            for (int s = 0; s < 4; s++) {
                due(s == to || before[s].equals(after[s]), true);
            }
        }
        start("a mirror and a cut that come to their own shelf", first);
        bench.mirror(2, 0);
        bench.mirror(0, 0);
        due(told(bench, 2), told(bench, 0));
        due(bench.corners(0), bench.points(0));
        again();
        bench.cut(2, 0, 1, 1, 1, 1);
        bench.cut(0, 0, 1, 1, 1, 1);
        due(told(bench, 2), told(bench, 0));
        due(bench.corners(0), bench.points(0));
    }

    private static void cutOfNothing() {
        start("a cut that takes nothing", x -> {
            x.make(0, 'c', 2);
            x.make(3, 'c', 2);
            addPoints(x, 0, 0, 0, 0, 2, 2, 0, 2, 0, 0);
        });
        int[][] planes = {{1, 0, 0, 3}, {1, 0, 0, 2}, {0, -1, 0, 2}, {1, 1, 0, 4}, {0, -9, 9, 36}, {1, 1, 1, 6},
            {-9, 9, -9, 54}, {9, 9, 9, 99}};
        for (int[] p : planes) {
            for (int to = 0; to < 2; to++) {
                again();
                due(8, bench.cut(to, 0, p[0], p[1], p[2], p[3]));
                due(8, bench.points(to));
                due(told(bench, 3), told(bench, to));
                due(6, bench.walls(to));
                due(to == 0 ? 8 : 11, bench.points(0));
            }
        }
    }

    private static void cutOfEverything() {
        start("a cut that takes everything", x -> {
            x.make(0, 'c', 2);
            x.addPoint(0, 0, 0, 0);
            x.make(1, 'o', 1);
        });
        int[][] planes = {{1, 0, 0, -3}, {9, 0, 0, -19}, {1, 1, 1, -7}, {-1, 1, 0, -5}, {9, 9, 9, -99}};
        for (int[] p : planes) {
            for (int to = 0; to < 2; to++) {
                again();
                due(0, bench.cut(to, 0, p[0], p[1], p[2], p[3]));
                due(0, bench.points(to));
                due(-1, bench.dimension(to));
                due(true, bench.isSound());
                due(1, bench.addPoint(to, 2, 2, 2));
                due(0, bench.dimension(to));
                due(1, bench.clear(to));
            }
        }
    }

    private static void cutToCorner() {
        start("a cut that leaves a corner alone", x -> {
            x.make(0, 'c', 2);
            addPoints(x, 0, 0, 0, 0, -2, -2, 0);
        });
        due(1, bench.cut(1, 0, 1, 1, 1, -6));
        due(0, bench.dimension(1));
        due(1, bench.addPoint(1, -2, -2, -2));
        due(2, bench.addPoint(1, 2, 2, 2));
        due(1, bench.cut(0, 0, 9, -9, 8, -52));
        due(1, bench.points(0));
        due(1, bench.addPoint(0, -2, 2, -2));
        due(1, bench.shift(0, 2, 0, 2));
        due(1, bench.addPoint(0, 0, 2, 0));
        due(0, bench.dimension(0));
        // One more below, and it is a body of the dimension 3.
        again();
        due(4, bench.cut(0, 0, 2, 2, 2, -11));
        due(3, bench.dimension(0));
    }

    private static void cutToEdge() {
        start("a cut that leaves an edge alone", x -> {
            x.make(0, 'c', 2);
            addPoints(x, 0, 0, 0, 0, -2, -2, 0);
        });
        due(2, bench.cut(1, 0, 1, 1, 0, -4));
        due(1, bench.dimension(1));
        due(2, bench.addPoint(1, -2, -2, -2));
        due(2, bench.addPoint(1, -2, -2, 2));
        due(3, bench.addPoint(1, -2, -2, 0));
        due(1, bench.dimension(1));
        due(4, bench.addPoint(1, -2, 2, 0));
        due(2, bench.dimension(1));
        due(5, bench.addPoint(1, 2, -2, 0));
        due(3, bench.dimension(1));
        due(4, bench.corners(1));
        due(2, bench.cut(0, 0, 0, -9, -9, -36));
        due(1, bench.dimension(0));
        due(2, bench.addPoint(0, 2, 2, 2));
        // An edge of fractions.
        again();
        bench.cut(0, 0, 2, 0, 0, 1);
        due(2, bench.cut(0, 0, -2, -2, 0, -5));
        due(1, bench.dimension(0));
        bench.shift(0, 0, -2, 0);
        due(3, bench.addPoint(0, 2, 0, 0));
        due(4, bench.addPoint(0, 2, 1, 0));
        due(3, bench.dimension(0));
        due(2, countOf(0, 'w', 2));
    }

    private static void cutToWall() {
        start("a cut that leaves a wall alone", x -> {
            x.make(0, 'c', 2);
            addPoints(x, 0, 0, 0, 0, -2, -2, 0, -2, 0, 0);
        });
        due(4, bench.cut(1, 0, 3, 0, 0, -6));
        due(2, bench.dimension(1));
        for (int i = 0; i < 4; i++) {
            due(4, bench.addPoint(1, -2, i < 2 ? -2 : 2, i % 2 == 0 ? -2 : 2));
        }
        due(5, bench.addPoint(1, -2, 0, 0));
        due(2, bench.dimension(1));
        due(6, bench.addPoint(1, 2, 0, 0));
        due(5, bench.corners(1));
        due(5, bench.walls(1));
        // A wall of fractions, which a cut has made.
        bench.cut(0, 0, 2, 0, 0, 1);
        due(4, bench.cut(0, 0, -2, 0, 0, -1));
        due(2, bench.dimension(0));
        due(5, bench.addPoint(0, -1, 0, 0));
        due(5, bench.corners(0));
        due(4, countOf(0, 'w', 2));
        due(true, hasWall(0, 2, 0, 0, 1));
    }

    private static void pointsThatAreNoCorners() {
        start("points that are no corners", x -> {
            x.make(0, 'c', 2);
            x.make(1, 'c', 2);
            addPoints(x, 1, 0, 0, 0, 2, 0, 0, 2, 2, 0, -2, -2, 1, -1, 0, 2, 1, 1, 1);
        });
        due(8, bench.points(0));
        due(14, bench.points(1));
        due(told(bench, 0), told(bench, 1));
        due(true, bench.areAlike(0, 1));
        due(figures(0), figures(1));
        bench.sum(2, 0, 0);
        bench.sum(3, 1, 1);
        due(told(bench, 2), told(bench, 3));
        due(8, bench.points(3));
        bench.mirror(2, 0);
        bench.mirror(3, 1);
        due(told(bench, 2), told(bench, 3));
        due(6, bench.points(3));
        bench.cut(2, 0, 1, 2, 3, 1);
        bench.cut(3, 1, 1, 2, 3, 1);
        due(told(bench, 2), told(bench, 3));
        due(bench.points(2), bench.points(3));
        // They move along, and are there still.
        due(14, bench.shift(1, 1, -1, 2));
        due(14, bench.addPoint(1, 1, -1, 2));
        due(14, bench.addPoint(1, 3, 1, 2));
        due(14, bench.addPoint(1, 2, 0, 3));
        due(15, bench.addPoint(1, 0, 0, 0));
        due(15, bench.clear(1));
        // A corner may become none, and points of a wall stay no corners as the body grows.
        again();
        due(15, bench.addPoint(1, 3, 3, 3));
        due(8, bench.corners(1));
        due(15, bench.addPoint(1, 2, 2, 2));
        due(15, bench.addPoint(1, 2, 2, 0));
        due(true, bench.isSound());
    }

    private static String figures(int s) {
        StringBuilder told = new StringBuilder();
        for (Call call : readingCalls(s)) {
            told.append(call.answer()).append(' ');
        }
        for (int k = 0; k <= 4; k++) {
            told.append(bench.count(s, k)).append(' ').append(k == 0 ? 0 : bench.inner(s, k)).append(' ');
        }
        for (char axis : "xyz".toCharArray()) {
            told.append(bench.shadow(s, axis)).append(' ').append(bench.middle(s, axis)).append(' ');
        }
        return told.append(bench.best(s, 0, 0, 0)).append(bench.best(s, 1, 1, 0)).toString();
    }

    private static void fractionsThatAreNoCorners() {
        Consumer<PolytopeBench> first = x -> {
            x.make(0, 's', 1);
            x.cut(0, 0, 7, 9, 8, 6);
            addPoints(x, 0, -1, -1, -1, 6, 0, 0, 0, 6, 0, 0, 0, 6);
        };
        start("A whole body has corners with w of 1 alone, whatever its other points have", first);
        due(8, bench.points(0));
        due(4, bench.corners(0));
        due(6, bench.coefficient(0, 0));
        due((long) bench.coefficient(0, 3), bench.volume(0, 'n'));
        due(bench.volume(0, 'n'), bench.volumeAnew(0, 'n'));
        due(1L, bench.volume(0, 'd'));
        start("a whole body with a point of fractions, and its mirror is whole", x -> {
            x.make(0, 's', 1);
            x.cut(0, 0, 7, 9, 8, 6);
            x.shift(0, -1, -1, -1);
            addPoints(x, 0, -1, -1, -1, 3, -1, -1, -1, 3, -1, -1, -1, 3);
        });
        due(7, bench.points(0));
        due(4, bench.corners(0));
        due(true, bench.isReflexive(0));
        // The point 6 / 7, 0, 0 is no corner, but a point of the shelf: so it keeps within its size.
        start("None of the numbers of a point is beyond 2000, if it is a corner or not", first);
        shiftFar(bench, 0, 284, 0, 0);
        refused(SIZE, () -> bench.shift(0, 1, 0, 0));
        due(8, bench.points(0));
        again();
        due(4, bench.cut(0, 0, 9, 9, 9, 99));
        shiftFar(bench, 0, 285, 0, 0);
        due(4, bench.points(0));
    }

    private static void madeNoTimesAsGreat() {
        start("made 0 times as great", x -> {
            x.make(0, 'c', 6);
            x.shift(0, 6, 6, 6);
            x.shift(0, 6, 6, 6);
            makeGreat(x, 1, 'o', 2000);
            x.make(2, 's', 1);
            x.cut(2, 2, -3, -3, -3, -1);
            x.cut(2, 2, 3, 3, 3, 2);
            x.shift(2, -6, 5, 4);
        });
        for (int s = 0; s < 3; s++) {
            int shelf = s;
            due(1, bench.count(s, 0));
            refused(KIND, () -> bench.inner(shelf, 0));
        }
    }

    private static void countOfFractions() {
        for (int sign = -1; sign <= 1; sign += 2) {
            int by = sign;
            start("whole points of a body with corners that are not whole", x -> {
                x.make(0, 'c', 1);
                for (int i = 0; i < 3; i++) {
                    x.cut(0, 0, at(i, 0, 3 * by), at(i, 1, 3 * by), at(i, 2, 3 * by), 2);
                    x.cut(0, 0, at(i, 0, -3 * by), at(i, 1, -3 * by), at(i, 2, -3 * by), -1);
                }
            });
            int[] counts = {1, 0, 1, 8, 1};
            for (int k = 0; k <= 4; k++) {
                due(counts[k], bench.count(0, k));
                if (k > 0) {
                    due(k % 2 == 0 ? 1 : 0, bench.inner(0, k));
                }
            }
        }
    }

    private static void boxToItsSize() {
        int[][] boxes = {{1, 6, 99, 99, 70000}, {1, 10, 73, 85, 70004}, {2, 1, 50, 115, 69993}, {2, 3, 36, 68, 70007},
            {3, 1, 23, 83, 70000}, {3, 6, 18, 22, 70015}, {4, 2, 19, 25, 69993}, {4, 3, 4, 79, 70057},
            {1, 49, 39, 34, 70000}, {1, 43, 36, 42, 70004}};
        for (int[] box : boxes) {
            for (int turn = 0; turn < 3; turn++) {
                int x0 = box[1 + turn];
                int y0 = box[1 + (turn + 1) % 3];
                int z0 = box[1 + (turn + 2) % 3];
                start("more than 70000 whole points", x -> {
                    makeBox(x, 0, -x0 / 2, -y0 / 2, -z0 / 2, x0 - x0 / 2, y0 - y0 / 2, z0 - z0 / 2);
                    x.shift(0, 5, -6, 3);
                });
                boxDue(box[0], box[4], (box[0] * x0 - 1) * (box[0] * y0 - 1) * (box[0] * z0 - 1));
            }
        }
    }

    private static void boxDue(int k, int all, int inside) {
        if (all > 70000) {
            refusedAndForgotten(SIZE, () -> bench.count(0, k));
            refusedAndForgotten(SIZE, () -> bench.inner(0, k));
        } else {
            due(all, bench.count(0, k));
            due(inside, bench.inner(0, k));
        }
        if (k == 3) {
            for (int power = 0; power <= 3; power++) {
                int at = power;
                Object got = outcome(() -> bench.coefficient(0, at));
                due(all > 70000, got == SIZE);
            }
        }
        due(true, bench.isSound());
    }

    private static void boxRounded() {
        // Twice the ends along an axis: 100 whole numbers in the box, and 101; with 7 and 100 along the others.
        int[][] ends = {{-98, 98, 99, 99}, {-99, 98, 99, 100}, {-98, 99, 99, 100}, {-97, 99, 98, 100},
            {-99, 99, 99, 101}};
        for (int[] end : ends) {
            for (int axis = 0; axis < 3; axis++) {
                int along = axis;
                start("its box goes from its least x, rounded down, to its greatest x, rounded up", x -> {
                    int[] box = {-50, -50, -50, 50, 50, 50};
                    box[(along + 1) % 3] = 0;
                    box[(along + 1) % 3 + 3] = 6;
                    box[(along + 2) % 3 + 3] = 49;
                    makeBox(x, 0, box);
                    x.cut(0, 0, at(along, 0, -2), at(along, 1, -2), at(along, 2, -2), -end[0]);
                    x.cut(0, 0, at(along, 0, 2), at(along, 1, 2), at(along, 2, 2), end[1]);
                    x.shift(0, -3, 4, 1);
                });
                if (end[3] > 100) {
                    refusedAndForgotten(SIZE, () -> bench.count(0, 1));
                    refusedAndForgotten(SIZE, () -> bench.inner(0, 1));
                } else {
                    due(7 * 100 * end[2], bench.count(0, 1));
                    int onWalls = (end[0] % 2 == 0 ? 1 : 0) + (end[1] % 2 == 0 ? 1 : 0);
                    due(5 * 98 * (end[2] - onWalls), bench.inner(0, 1));
                }
            }
        }
    }

    private static void polynomial() {
        start("the number of whole points is a polynomial of k then, and its coefficients times 6 are whole");
        for (int step = 5; step < 60; step += 6) {
            again();
            for (int i = 0; i < 12; i++) {
                bench.addPoint(0, i * step % 7 - 3, i * i * step % 7 - 3, (i + step) * i % 5 - 2);
            }
            if (bench.dimension(0) < 3) {
                continue;
            }
            for (int k = 0; k <= 4; k++) {
                int told = 0;
                int toldInner = 0;
                for (int power = 3; power >= 0; power--) {
                    told = told * k + bench.coefficient(0, power);
                    toldInner = toldInner * -k + bench.coefficient(0, power);
                }
                due(told, 6 * bench.count(0, k));
                due(k == 0 ? 6 : toldInner, k == 0 ? 6 : -6 * bench.inner(0, k));
            }
            due((long) bench.coefficient(0, 3), bench.volume(0, 'n'));
            due(true, bench.isSound());
        }
    }

    private static void leastCommonW() {
        // A cut through two corners, and through one edge at a point with this w; then 6 times the volume times w.
        int[][] runs = {{59, 9, 5, 1, 29, 2, 6, 754}, {60, 9, 6, 1, 29, 2, 5, 667}, {61, 9, 7, 1, 30, 3, 5, 0}};
        for (int[] run : runs) {
            start("the least whole number that all w of corners divide: " + run[0], x -> {
                addPoints(x, 0, 0, 0, 0, 6, 1, 0, 3, 0, run[5], 2, 1, run[6]);
                x.cut(0, 0, run[1], run[2], run[3], run[4]);
            });
            due(4, bench.corners(0));
            due(1, countOf(0, 'w', run[0]));
            due(3, countOf(0, 'w', 1));
            volumesDue(run[0], run[7], run[0]);
        }
        int[][] boxes = {{3, 4, 5, 60}, {4, 5, 6, 60}, {2, 3, 5, 30}, {7, 8, 1, 56}, {6, 9, 4, 36}, {7, 9, 1, 63},
            {8, 9, 1, 72}, {5, 7, 2, 70}, {7, 9, 8, 504}, {2, 4, 8, 8}};
        for (int[] box : boxes) {
            start("the least whole number that all w of corners divide: " + box[3], x -> {
                x.make(0, 'c', 1);
                x.cut(0, 0, box[0], 0, 0, 1);
                x.cut(0, 0, 0, box[1], 0, 1);
                x.cut(0, 0, 0, 0, box[2], 1);
            });
            long n = 6L * (box[0] + 1) * (box[1] + 1) * (box[2] + 1);
            long d = (long) box[0] * box[1] * box[2];
            volumesDue(box[3], n / gcd(n, d), d / gcd(n, d));
        }
    }

    private static void volumesDue(int common, long n, long d) {
        if (common > 60) {
            for (char part : "nd".toCharArray()) {
                refusedAndForgotten(SIZE, () -> bench.volume(0, part));
                refusedAndForgotten(SIZE, () -> bench.volumeAnew(0, part));
            }
        } else {
            due(n, bench.volume(0, 'n'));
            due(d, bench.volume(0, 'd'));
            due(n, bench.volumeAnew(0, 'n'));
            due(d, bench.volumeAnew(0, 'd'));
        }
        due(true, bench.isSound());
    }

    private static long gcd(long one, long other) {
        return other == 0 ? one : gcd(other, one % other);
    }

    private static void reflexive() {
        start("true if so, whatever the size of the mirror", x -> {
            // The eight-sided body of the size 1 in other numbers: its walls have numbers beyond 2000.
            addPoints(x, 0, 1, 0, 0, -1, 0, 0);
            addShifted(x, 45, 1, 0);
            addShifted(x, -45, -1, 0);
            addShifted(x, 0, 45, 1);
            addShifted(x, 0, -45, -1);
        });
        due(6, bench.corners(0));
        due(2, bench.has(0, 0, 0, 0));
        due(true, bench.isReflexive(0));
        refusedAndForgotten(SIZE, () -> bench.mirror(1, 0));
        bench.shift(0, 1, 0, 0);
        due(1, bench.has(0, 0, 0, 0));
        due(false, bench.isReflexive(0));
        bench.shift(0, 1, 0, 0);
        due(0, bench.has(0, 0, 0, 0));
        due(false, bench.isReflexive(0));
        start("false if 0, 0, 0 is not inside");
        bench.make(0, 'c', 1);
        due(true, bench.isReflexive(0));
        for (int i = 0; i < 3; i++) {
            for (int sign = -1; sign <= 1; sign += 2) {
                for (int far = 1; far <= 2; far++) {
                    bench.make(0, 'c', 1);
                    int by = sign * far;
                    bench.shift(0, at(i, 0, by), at(i, 1, by), at(i, 2, by));
                    due(2 - far, bench.has(0, 0, 0, 0));
                    due(false, bench.isReflexive(0));
                }
            }
        }
    }

    private static void alikeByNumbersAlone() {
        // Going round the one of three sides twice is going round that of six sides once: but corners have to match.
        int[] three = {3, 0, -3, 3, 0, -3};
        int[] six = {2, 1, 1, 2, -1, 1, -2, -1, -1, -2, 1, -1};
        start("alike: corners can be matched, not one with two", x -> {
            for (int z = 0; z < 2; z++) {
                for (int i = 0; i + 1 < 6; i += 2) {
                    x.addPoint(0, three[i], three[i + 1], z);
                }
                for (int i = 0; i + 1 < 12; i += 2) {
                    x.addPoint(1, six[i], six[i + 1], z);
                }
            }
        });
        due(6, bench.corners(0));
        due(12, bench.corners(1));
        due(false, bench.areAlike(0, 1));
        due(false, bench.areAlike(1, 0));
        bench.shift(0, 0, 0, 1);
        bench.addPoint(0, 0, 0, 6);
        due(7, bench.corners(0));
        due(false, bench.areAlike(0, 1));
        // As many corners, walls and edges, but a wall of five corners in one alone.
        start("alike: all walls match", x -> {
            x.make(0, 'c', 2);
            x.cut(0, 0, 1, 1, 1, 5);
            x.cut(1, 0, 1, 1, -1, 5);
            x.cut(2, 0, -1, -1, 1, 5);
            x.cut(3, 0, -1, -1, -1, 5);
        });
        due(bench.edges(1), bench.edges(2));
        due(bench.corners(1), bench.corners(3));
        due(bench.walls(1), bench.walls(3));
        due(false, bench.areAlike(1, 2));
        due(false, bench.areAlike(1, 3));
        due(false, bench.areAlike(3, 2));
        due(false, bench.areAlike(2, 3));
        due(true, bench.areAlike(2, 2));
    }

    /** Adds a point that is farther off than addPoint allows. */
    private static void addShifted(PolytopeBench x, int px, int py, int pz) {
        shiftFar(x, 0, -px, -py, -pz);
        x.addPoint(0, 0, 0, 0);
        shiftFar(x, 0, px, py, pz);
    }
}
