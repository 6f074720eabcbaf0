import java.math.BigInteger;
import java.util.ArrayList;
import java.util.HashSet;
import java.util.List;
import java.util.Set;
import java.util.function.Consumer;
import java.util.function.IntFunction;

/**
 * Each 'Throws' row of each promise by itself: the last call that is allowed and the first that is refused, both ways,
 * and the greatest and least ints. What is refused is forgotten: later calls answer as without it.
 */
public final class ThrowsTest extends Checks {
    private static final int[] CORNERED = {-1, -1, -1, 3, -1, -1, 1, -1, -1, -1, 3, -1, 1, 1, -1, 0, 0, -1, -1, -1, 3};
    /** How many numbers of these points make a body of the dimension -1, 0, 1, 2 and 3. */
    private static final int[] TAKEN = {0, 3, 9, 18, 21};

    public static void main(String[] args) {
        clear();
        addPoint();
        make();
        shift();
        sum();
        mirror();
        cut();
        pointsAndDimension();
        cornersAndCorner();
        wallsAndWall();
        touches();
        edges();
        degreeAndSides();
        distances();
        areAlike();
        shadow();
        has();
        programs();
        counts();
        coefficient();
        isReflexive();
        volumes();
        figures();
        finish("ThrowsTest");
    }

    /** A cube and a body of fractions, each with points that are no corners; points in a plane; points on a line. */
    private static void mixed(PolytopeBench x) {
        x.make(0, 'c', 2);
        addPoints(x, 0, 0, 0, 0, 2, 1, 0);
        addPoints(x, 1, 0, 0, 1, 1, 0, 1, 0, 1, 1, 1, 1, 1, -1, 0, 1);
        addPoints(x, 2, 0, 0, 0, 1, 0, 0, -1, 0, 0);
        x.make(3, 's', 1);
        x.cut(3, 3, 0, 0, 2, 1);
        addPoints(x, 3, -1, 0, 0, -1, -1, -1, 0, 0, 0);
    }

    private static void promise(String told) {
        start(told, ThrowsTest::mixed);
    }

    /** The row 'if there is no such shelf'. */
    private static void noShelf(IntFunction<Object> call) {
        allowed(() -> call.apply(0));
        allowed(() -> call.apply(3));
        for (int shelf : new int[] {-1, 4, LOW, TOP}) {
            refusedAndForgotten(SHELF, () -> call.apply(shelf));
        }
    }

    /** The row 'if the body is not of the dimension 3', for a body on shelf 1 beside a cube on shelf 0. */
    private static void notSolid(String told, Call call) {
        for (int dimension = -1; dimension <= 3; dimension++) {
            int taken = TAKEN[dimension + 1];
            start(told, x -> {
                x.make(0, 'c', 1);
                addPoints(x, 1, java.util.Arrays.copyOf(CORNERED, taken));
            });
            due(dimension, bench.dimension(1));
            if (dimension == 3) {
                allowed(call);
            } else {
                refusedAndForgotten(FLAT, call);
            }
        }
        promise(told);
    }

    /** The row 'if a number is out of range', or that there is none of this number. */
    private static void range(Class<? extends Exception> want, int low, int high, IntFunction<Object> call) {
        allowed(() -> call.apply(low));
        allowed(() -> call.apply(high));
        for (int number : new int[] {low - 1, high + 1, LOW, TOP}) {
            refusedAndForgotten(want, () -> call.apply(number));
        }
    }

    /** The row 'if there is no such letter': every char there is. */
    private static void letters(String good, IntFunction<Object> call) {
        again();
        for (int c = 0; c <= Character.MAX_VALUE; c++) {
            int letter = c;
            boolean isRefused = outcome(() -> call.apply(letter)) == KIND;
            if (isRefused == good.indexOf(c) >= 0) {
                fault("the letter " + c + (isRefused ? " is refused" : " is not refused"));
            }
        }
        for (char c : "\0\uffffXA".toCharArray()) {
            refusedAndForgotten(KIND, () -> call.apply(c));
        }
    }

    private static void clear() {
        promise("2: no such shelf");
        noShelf(s -> bench.clear(s));
    }

    private static void addPoint() {
        promise("3: no such shelf");
        noShelf(s -> bench.addPoint(s, 3, 1, 2));
        promise("3: a number out of range");
        range(KIND, -6, 6, n -> bench.addPoint(0, n, 0, 0));
        range(KIND, -6, 6, n -> bench.addPoint(1, 0, n, 0));
        range(KIND, -6, 6, n -> bench.addPoint(2, 0, 0, n));
        refusedAndForgotten(SHELF, () -> bench.addPoint(4, 7, 0, 0));
        refusedAndForgotten(SHELF, () -> bench.addPoint(-1, 0, 0, -7));
        fullShelf("3: a solid of 60 points", x -> makeRound(x, 0, 5, 0, 59));
        fullShelf("3: a plane of 60 points", x -> {
            for (int i = 0; i < 59; i++) {
                x.addPoint(0, i % 10 - 6, i / 10 - 6, 3);
            }
        });
        start("3: 60 points of which many are no corners", x -> {
            x.make(0, 'c', 6);
            for (int i = 0; i < 52; i++) {
                x.addPoint(0, i % 10 - 5, i / 10 - 5, 0);
            }
        });
        due(60, bench.points(0));
        due(8, bench.corners(0));
        due(60, bench.addPoint(0, -5, -5, 0));
        due(60, bench.addPoint(0, 6, 6, 6));
        refusedAndForgotten(FULL, () -> bench.addPoint(0, 5, 5, 5));
        due(60, bench.clear(0));
        due(1, bench.addPoint(0, 5, 5, 5));
    }

    /** The row 'if it is a new one, and the shelf has 60', for a shelf that has 59. */
    private static void fullShelf(String told, Consumer<PolytopeBench> has59) {
        start(told, has59);
        due(59, bench.points(0));
        due(60, bench.addPoint(0, 5, 5, 3));
        start(told, x -> {
            has59.accept(x);
            x.addPoint(0, 5, 5, 3);
        });
        refusedAndForgotten(FULL, () -> bench.addPoint(0, -1, 6, 3));
        refusedAndForgotten(FULL, () -> bench.addPoint(0, 1, 1, -1));
        due(60, bench.addPoint(0, 5, 5, 3));
        due(60, bench.points(0));
        refusedAndForgotten(KIND, () -> bench.addPoint(0, 7, 5, 3));
        refusedAndForgotten(KIND, () -> bench.addPoint(0, 0, 0, LOW));
        due(1, bench.addPoint(1, 0, 0, 0));
    }

    private static void make() {
        promise("4: no such shelf");
        noShelf(s -> bench.make(s, 'o', 1));
        promise("4: no such kind");
        letters("cos", c -> bench.make(0, (char) c, 1));
        promise("4: the size out of range");
        for (char kind : "cos".toCharArray()) {
            range(KIND, 1, 6, n -> bench.make(1, kind, n));
        }
        refusedAndForgotten(SHELF, () -> bench.make(4, 'c', 7));
        refusedAndForgotten(SHELF, () -> bench.make(-1, 'x', 1));
        refusedAndForgotten(KIND, () -> bench.make(0, 'x', 7));
    }

    private static void shift() {
        promise("5: no such shelf");
        noShelf(s -> bench.shift(s, 0, 0, 0));
        promise("5: a number out of range");
        range(KIND, -6, 6, n -> bench.shift(0, n, 0, 0));
        range(KIND, -6, 6, n -> bench.shift(1, 0, n, 0));
        range(KIND, -6, 6, n -> bench.shift(2, 0, 0, n));
        refusedAndForgotten(SHELF, () -> bench.shift(4, 7, 0, 0));
        refusedAndForgotten(SHELF, () -> bench.shift(LOW, 0, 0, LOW));
        // On an empty shelf too.
        start("5: a number out of range");
        range(KIND, -6, 6, n -> bench.shift(0, 0, n, 0));
        start("5: out of range and beyond its size", x -> makeGreat(x, 0, 'o', 2000));
        refusedAndForgotten(SIZE, () -> bench.shift(0, 6, 0, 0));
        refusedAndForgotten(KIND, () -> bench.shift(0, 7, 0, 0));
        refusedAndForgotten(KIND, () -> bench.shift(0, 6, 0, -7));
        refusedAndForgotten(SHELF, () -> bench.shift(4, 6, 0, 0));
    }

    private static void sum() {
        promise("6: no such shelf");
        noShelf(s -> bench.sum(s, 0, 0));
        noShelf(s -> bench.sum(1, s, 3));
        noShelf(s -> bench.sum(2, 3, s));
        notSolid("6: one body not of the dimension 3", () -> bench.sum(2, 1, 0));
        notSolid("6: one body not of the dimension 3", () -> bench.sum(2, 0, 1));
        notSolid("6: one body not of the dimension 3", () -> bench.sum(1, 1, 1));
        notSolid("6: no such shelf, but a lesser body", () -> bench.sum(1, 0, 1));
        refusedAndForgotten(SHELF, () -> bench.sum(4, 1, 1));
        refusedAndForgotten(SHELF, () -> bench.sum(0, 1, 4));
        refusedAndForgotten(SHELF, () -> bench.sum(0, -1, 1));
        start("6: not of the dimension 3, though of so many points", x -> {
            x.make(0, 'c', 1);
            for (int i = 0; i < 60; i++) {
                x.addPoint(1, i % 12 - 6, 0, i / 12);
            }
        });
        refusedAndForgotten(FLAT, () -> bench.sum(2, 0, 1));
        refusedAndForgotten(FLAT, () -> bench.sum(2, 1, 0));
        start("6: 60 different sums", x -> {
            x.make(0, 'c', 3);
            x.cut(0, 0, 0, 1, 1, 2);
            x.make(1, 'o', 2);
        });
        due(60, differentSums(0, 1));
        due(26, bench.sum(2, 0, 1));
        start("6: 59 different sums", x -> {
            x.make(0, 'o', 3);
            x.make(1, 'o', 3);
            x.cut(1, 1, 1, 0, 0, 1);
            x.cut(1, 1, 1, 1, 1, 2);
        });
        due(59, differentSums(0, 1));
        due(11, bench.sum(0, 1, 0));
        start("6: 61 different sums", x -> {
            x.make(0, 'o', 2);
            x.cut(0, 0, 1, 1, 1, 1);
            x.make(1, 'c', 1);
        });
        due(61, differentSums(0, 1));
        refusedAndForgotten(FULL, () -> bench.sum(2, 0, 1));
        refusedAndForgotten(FULL, () -> bench.sum(1, 1, 0));
        refusedAndForgotten(SHELF, () -> bench.sum(4, 0, 1));
        // 64 different sums, of which 8 alone would be corners.
        start("6: too many different sums, but few corners", x -> {
            x.make(0, 'c', 5);
            x.make(1, 'c', 1);
        });
        due(64, differentSums(0, 1));
        refusedAndForgotten(FULL, () -> bench.sum(2, 0, 1));
        start("6: too many sums, and numbers beyond their size", x -> {
            makeGreat(x, 0, 'o', 2000);
            x.make(1, 'o', 2);
            x.cut(1, 1, 1, 1, 1, 1);
        });
        due(54, differentSums(0, 1));
        refusedAndForgotten(SIZE, () -> bench.sum(2, 0, 1));
        start("6: too many sums, and numbers beyond their size", x -> {
            makeGreat(x, 0, 'o', 2000);
            x.make(1, 'c', 1);
            x.cut(1, 1, 1, 1, 1, 2);
            x.cut(1, 1, 1, 1, -1, 2);
        });
        due(66, differentSums(0, 1));
        refusedAndForgotten(FULL, () -> bench.sum(2, 0, 1));
        refusedAndForgotten(SHELF, () -> bench.sum(-1, 0, 1));
    }

    /** Counts the different sums of a corner of one body and one of the other. */
    private static int differentSums(int one, int other) {
        Set<List<Long>> sums = new HashSet<>();
        for (int i = 0; i < bench.corners(one); i++) {
            for (int j = 0; j < bench.corners(other); j++) {
                long v = bench.corner(one, i, 'w');
                long w = bench.corner(other, j, 'w');
                List<Long> sum = new ArrayList<>(List.of(v * w));
                BigInteger divisor = BigInteger.valueOf(v * w);
                for (char c : "xyz".toCharArray()) {
                    sum.add(bench.corner(one, i, c) * w + bench.corner(other, j, c) * v);
                    divisor = divisor.gcd(BigInteger.valueOf(sum.get(sum.size() - 1)));
                }
                long g = divisor.longValueExact();
                sum.replaceAll(number -> number / g);
                sums.add(sum);
            }
        }
        return sums.size();
    }

    private static void mirror() {
        promise("7: no such shelf");
        noShelf(s -> bench.mirror(s, 0));
        start("7: no such shelf", x -> {
            x.make(0, 'c', 2);
            x.make(3, 'o', 2);
        });
        noShelf(s -> bench.mirror(1, s));
        notSolid("7: the body not of the dimension 3", () -> bench.mirror(2, 1));
        notSolid("7: the body not of the dimension 3", () -> bench.mirror(1, 1));
        notSolid("7: no such shelf, and a lesser body", () -> bench.mirror(0, 1));
        refusedAndForgotten(SHELF, () -> bench.mirror(4, 1));
        refusedAndForgotten(SHELF, () -> bench.mirror(1, 4));
        // 0, 0, 0 inside, on each of the walls, on an edge, on a corner, and outside.
        start("7: 0, 0, 0 inside, on no wall", x -> x.make(0, 'c', 3));
        for (int side = 0; side < 6; side++) {
            int by = side % 2 == 0 ? 1 : -1;
            for (int far = 0; far < 5; far++) {
                int on = far;
                int axis = side / 2;
                Consumer<PolytopeBench> first = x -> {
                    x.make(0, 'c', 3);
                    addPoints(x, 0, 0, 0, 0);
                    x.shift(0, axis == 0 ? on * by : 0, axis == 1 ? on * by : 0, axis == 2 ? on * by : 0);
                };
                start("7: 0, 0, 0 inside, on no wall", first);
                due(far < 3 ? 2 : far == 3 ? 1 : 0, bench.has(0, 0, 0, 0));
                if (far < 3) {
                    due(6, bench.mirror(1, 0));
                } else {
                    refusedAndForgotten(FLAT, () -> bench.mirror(1, 0));
                    refusedAndForgotten(FLAT, () -> bench.mirror(0, 0));
                }
            }
        }
        for (int[] by : new int[][] {{3, 3, 0}, {-3, 0, 3}, {3, -3, 3}, {4, 4, 4}}) {
            start("7: 0, 0, 0 on an edge, a corner, outside", x -> {
                x.make(0, 'c', 3);
                x.shift(0, by[0], by[1], by[2]);
            });
            refusedAndForgotten(FLAT, () -> bench.mirror(1, 0));
        }
        mirrorOfManyWalls();
    }

    private static void mirrorOfManyWalls() {
        int[][] taken = {{34, 59}, {35, 61}, {36, 60}};
        for (int[] few : taken) {
            start("7: more than 60 points", x -> makeRound(x, 0, 31, 0, few[0]));
            due(few[1], bench.walls(0));
            due(2, bench.has(0, 0, 0, 0));
            if (few[1] > 60) {
                refusedAndForgotten(FULL, () -> bench.mirror(1, 0));
                refusedAndForgotten(FULL, () -> bench.mirror(0, 0));
                refusedAndForgotten(SHELF, () -> bench.mirror(0, 4));
            } else {
                due(few[1], bench.mirror(1, 0));
                due(few[1], bench.points(1));
            }
        }
        start("7: more than 60 points, and 0, 0, 0 outside", x -> {
            makeRound(x, 0, 31, 0, 35);
            shiftFar(x, 0, 12, 0, 0);
        });
        due(0, bench.has(0, 0, 0, 0));
        refusedAndForgotten(FLAT, () -> bench.mirror(1, 0));
        // A far tip makes walls of great numbers.
        for (int few : new int[] {25, 55}) {
            start("7: more than 60 points, and numbers beyond their size", x -> {
                makeRound(x, 0, 31, 0, few);
                shiftFar(x, 0, 5, 301, 49);
                x.addPoint(0, 1, 0, 0);
                shiftFar(x, 0, -5, -301, -49);
            });
            due(2, bench.has(0, 0, 0, 0));
            due(few == 55, bench.walls(0) > 60);
            due(true, greatestOfWalls() > 2000);
            refusedAndForgotten(few == 55 ? FULL : SIZE, () -> bench.mirror(1, 0));
        }
        start("7: numbers beyond their size, and 0, 0, 0 on a wall", x -> {
            makeGreat(x, 0, 'o', 1900);
            shiftFar(x, 0, 100, 0, 0);
            x.cut(0, 0, -1, 0, 0, 0);
        });
        due(true, greatestOfWalls() == 2000);
        refusedAndForgotten(FLAT, () -> bench.mirror(1, 0));
        bench.shift(0, -1, 6, 0);
        due(true, greatestOfWalls() > 2000);
        due(2, bench.has(0, 0, 0, 0));
        refused(SIZE, () -> bench.mirror(1, 0));
        bench.shift(0, 1, 0, 0);
        due(true, greatestOfWalls() > 2000);
        refused(FLAT, () -> bench.mirror(1, 0));
    }

    private static int greatestOfWalls() {
        int greatest = 0;
        for (int u = 0; u < bench.walls(0); u++) {
            for (char c : "abcd".toCharArray()) {
                greatest = Math.max(greatest, Math.abs(bench.wall(0, u, c)));
            }
        }
        return greatest;
    }

    private static void cut() {
        promise("8: no such shelf");
        noShelf(s -> bench.cut(s, 0, 1, 0, 0, 1));
        noShelf(s -> bench.cut(1, s, 1, 0, 0, 1));
        promise("8: a number out of range");
        range(KIND, -9, 9, n -> bench.cut(1, 0, n, 1, 1, 3));
        range(KIND, -9, 9, n -> bench.cut(1, 0, 1, n, 1, 3));
        range(KIND, -9, 9, n -> bench.cut(1, 0, 1, 1, n, 3));
        range(KIND, -99, 99, n -> bench.cut(1, 0, 1, 1, 1, n));
        range(KIND, -99, 99, n -> bench.cut(1, 0, -9, 9, 9, n));
        promise("8: a, b and c are 0");
        for (int d : new int[] {-99, -1, 0, 1, 99, 100}) {
            refusedAndForgotten(KIND, () -> bench.cut(1, 0, 0, 0, 0, d));
        }
        for (int one : new int[] {-9, -1, 1, 9}) {
            allowed(() -> bench.cut(1, 0, one, 0, 0, 0));
            allowed(() -> bench.cut(1, 0, 0, one, 0, 0));
            allowed(() -> bench.cut(1, 0, 0, 0, one, 0));
        }
        notSolid("8: the body not of the dimension 3", () -> bench.cut(2, 1, 1, 0, 0, 1));
        notSolid("8: the body not of the dimension 3", () -> bench.cut(1, 1, 0, 0, -9, 99));
        promise("8: several exceptions");
        refusedAndForgotten(SHELF, () -> bench.cut(4, 0, 10, 0, 0, 0));
        refusedAndForgotten(SHELF, () -> bench.cut(0, 4, 0, 0, 0, 0));
        refusedAndForgotten(SHELF, () -> bench.cut(-1, 1, 1, 0, 0, 0));
        refusedAndForgotten(SHELF, () -> bench.cut(1, -1, 1, 0, 0, 0));
        refusedAndForgotten(KIND, () -> bench.cut(0, 1, 10, 0, 0, 0));
        refusedAndForgotten(KIND, () -> bench.cut(0, 1, 0, 0, 0, 0));
        refusedAndForgotten(KIND, () -> bench.cut(0, 1, 1, 0, 0, 100));
        cutToMany();
    }

    private static void cutToMany() {
        int[][] runs = {{5, 55, 3, 8, 7, 7, 59}, {5, 59, 1, 6, 2, 5, 60}, {7, 59, 2, 5, 2, 9, 61}};
        for (int[] run : runs) {
            start("8: more than 60 points", x -> makeRound(x, 0, run[0], 0, run[1]));
            due(run[1], bench.corners(0));
            if (run[6] > 60) {
                refusedAndForgotten(FULL, () -> bench.cut(1, 0, run[2], run[3], run[4], run[5]));
                refusedAndForgotten(FULL, () -> bench.cut(0, 0, run[2], run[3], run[4], run[5]));
                refusedAndForgotten(KIND, () -> bench.cut(0, 0, run[2], run[3], run[4], 100));
                refusedAndForgotten(SHELF, () -> bench.cut(0, 4, run[2], run[3], run[4], run[5]));
            } else {
                due(run[6], bench.cut(1, 0, run[2], run[3], run[4], run[5]));
                due(run[6], bench.corners(1));
            }
        }
        // 61 points, of which one has a number of 2366; with fewer corners there is this one alone.
        start("8: more than 60 points, and a number beyond its size", x -> {
            makeRound(x, 0, 5, 0, 51);
            x.cut(0, 0, 6, 8, 3, 44);
        });
        refusedAndForgotten(FULL, () -> bench.cut(1, 0, 0, 6, 9, 65));
        refusedAndForgotten(FULL, () -> bench.cut(0, 0, 0, 6, 9, 65));
        start("8: a number beyond its size, and a number out of range", x -> {
            x.make(0, 'c', 6);
            x.cut(0, 0, 4, 4, 9, -13);
            x.cut(0, 0, 9, 2, -3, 28);
        });
        refusedAndForgotten(SIZE, () -> bench.cut(1, 0, 6, -3, 9, 4));
        refusedAndForgotten(SIZE, () -> bench.cut(0, 0, 6, -3, 9, 4));
        refusedAndForgotten(KIND, () -> bench.cut(0, 0, 6, -3, 10, 4));
        refusedAndForgotten(SHELF, () -> bench.cut(4, 0, 6, -3, 9, 4));
    }

    private static void pointsAndDimension() {
        promise("9: no such shelf");
        noShelf(s -> bench.points(s));
        promise("10: no such shelf");
        noShelf(s -> bench.dimension(s));
    }

    private static void cornersAndCorner() {
        promise("11: no such shelf");
        noShelf(s -> bench.corners(s));
        notSolid("11: not of the dimension 3", () -> bench.corners(1));
        promise("12: no such shelf");
        noShelf(s -> bench.corner(s, 0, 'x'));
        notSolid("12: not of the dimension 3", () -> bench.corner(1, 0, 'w'));
        range(NONE, 0, 7, n -> bench.corner(0, n, 'y'));
        range(NONE, 0, bench.corners(3) - 1, n -> bench.corner(3, n, 'y'));
        letters("xyzw", c -> bench.corner(0, 7, (char) c));
        severalForNumber(n -> bench.corner(0, n, 'a'), 8, s -> bench.corner(s, -1, 'a'));
    }

    /** A number that there is none of goes before a letter, a lesser body before both, and a shelf before all. */
    private static void severalForNumber(IntFunction<Object> wrongToo, int none, IntFunction<Object> allWrong) {
        for (int number : new int[] {-1, none, LOW, TOP}) {
            refusedAndForgotten(NONE, () -> wrongToo.apply(number));
        }
        for (int shelf : new int[] {-1, 4, LOW, TOP}) {
            refusedAndForgotten(SHELF, () -> allWrong.apply(shelf));
        }
        refusedAndForgotten(FLAT, () -> allWrong.apply(1));
        refusedAndForgotten(FLAT, () -> allWrong.apply(2));
    }

    private static void wallsAndWall() {
        promise("13: no such shelf");
        noShelf(s -> bench.walls(s));
        notSolid("13: not of the dimension 3", () -> bench.walls(1));
        promise("14: no such shelf");
        noShelf(s -> bench.wall(s, 0, 'a'));
        notSolid("14: not of the dimension 3", () -> bench.wall(1, 3, 'd'));
        range(NONE, 0, 5, n -> bench.wall(0, n, 'b'));
        range(NONE, 0, bench.walls(3) - 1, n -> bench.wall(3, n, 'd'));
        letters("abcd", c -> bench.wall(0, 5, (char) c));
        severalForNumber(n -> bench.wall(0, n, 'x'), 6, s -> bench.wall(s, -1, 'x'));
    }

    private static void touches() {
        promise("15: no such shelf");
        noShelf(s -> bench.touches(s, 0, 0));
        notSolid("15: not of the dimension 3", () -> bench.touches(1, 3, 3));
        range(NONE, 0, 5, n -> bench.touches(0, n, 0));
        range(NONE, 0, 7, n -> bench.touches(0, 0, n));
        severalForNumber(n -> bench.touches(0, n, 8), 6, s -> bench.touches(s, 6, 8));
        severalForNumber(n -> bench.touches(0, 0, n), 8, s -> bench.touches(s, -1, -1));
    }

    private static void edges() {
        promise("16: no such shelf");
        noShelf(s -> bench.edges(s));
        notSolid("16: not of the dimension 3", () -> bench.edges(1));
        promise("17: no such shelf");
        noShelf(s -> bench.edgeEnd(s, 0, true));
        notSolid("17: not of the dimension 3", () -> bench.edgeEnd(1, 5, false));
        range(NONE, 0, 11, n -> bench.edgeEnd(0, n, true));
        range(NONE, 0, 11, n -> bench.edgeEnd(0, n, false));
        severalForNumber(n -> bench.edgeEnd(0, n, true), 12, s -> bench.edgeEnd(s, -1, true));
    }

    private static void degreeAndSides() {
        promise("18: no such shelf");
        noShelf(s -> bench.degree(s, 0));
        notSolid("18: not of the dimension 3", () -> bench.degree(1, 3));
        range(NONE, 0, 7, n -> bench.degree(0, n));
        severalForNumber(n -> bench.degree(0, n), 8, s -> bench.degree(s, 8));
        promise("19: no such shelf");
        noShelf(s -> bench.sides(s, 0));
        notSolid("19: not of the dimension 3", () -> bench.sides(1, 3));
        range(NONE, 0, 5, n -> bench.sides(0, n));
        severalForNumber(n -> bench.sides(0, n), 6, s -> bench.sides(s, 6));
    }

    private static void distances() {
        promise("20: no such shelf");
        noShelf(s -> bench.distance(s, 0, 1));
        notSolid("20: not of the dimension 3", () -> bench.distance(1, 3, 0));
        range(NONE, 0, 7, n -> bench.distance(0, n, 3));
        range(NONE, 0, 7, n -> bench.distance(0, 3, n));
        severalForNumber(n -> bench.distance(0, n, n), 8, s -> bench.distance(s, 8, 8));
        promise("21: no such shelf");
        noShelf(s -> bench.diameter(s));
        notSolid("21: not of the dimension 3", () -> bench.diameter(1));
    }

    private static void areAlike() {
        promise("22: no such shelf");
        noShelf(s -> bench.areAlike(s, 0));
        noShelf(s -> bench.areAlike(3, s));
        notSolid("22: one body not of the dimension 3", () -> bench.areAlike(0, 1));
        notSolid("22: one body not of the dimension 3", () -> bench.areAlike(1, 0));
        notSolid("22: one body not of the dimension 3", () -> bench.areAlike(1, 1));
        for (int shelf : new int[] {-1, 4, LOW, TOP}) {
            refusedAndForgotten(SHELF, () -> bench.areAlike(1, shelf));
            refusedAndForgotten(SHELF, () -> bench.areAlike(shelf, 1));
        }
    }

    private static void shadow() {
        promise("23: no such shelf");
        noShelf(s -> bench.shadow(s, 'x'));
        notSolid("23: not of the dimension 3", () -> bench.shadow(1, 'z'));
        letters("xyz", c -> bench.shadow(3, (char) c));
        refusedAndForgotten(SHELF, () -> bench.shadow(4, 'w'));
        refusedAndForgotten(FLAT, () -> bench.shadow(1, 'w'));
    }

    private static void has() {
        promise("24: no such shelf");
        noShelf(s -> bench.has(s, 0, 0, 0));
        notSolid("24: not of the dimension 3", () -> bench.has(1, 0, 0, 0));
        range(KIND, -1000, 1000, n -> bench.has(0, n, 0, 0));
        range(KIND, -1000, 1000, n -> bench.has(0, 0, n, 0));
        range(KIND, -1000, 1000, n -> bench.has(3, 0, 0, n));
        severalForRange(s -> bench.has(s, 1001, 0, 0));
        severalForRange(s -> bench.has(s, 0, 0, LOW));
    }

    /** A lesser body goes before a number out of range, and a shelf before both. */
    private static void severalForRange(IntFunction<Object> outOfRange) {
        for (int shelf : new int[] {-1, 4, LOW, TOP}) {
            refusedAndForgotten(SHELF, () -> outOfRange.apply(shelf));
        }
        refusedAndForgotten(FLAT, () -> outOfRange.apply(1));
        refusedAndForgotten(FLAT, () -> outOfRange.apply(2));
        refusedAndForgotten(KIND, () -> outOfRange.apply(0));
        refusedAndForgotten(KIND, () -> outOfRange.apply(3));
    }

    private static void programs() {
        promise("25: no such shelf");
        noShelf(s -> bench.best(s, 1, 0, 0));
        notSolid("25: not of the dimension 3", () -> bench.best(1, 1, 1, 0));
        range(KIND, -99, 99, n -> bench.best(0, n, 0, 0));
        range(KIND, -99, 99, n -> bench.best(0, 0, n, 0));
        range(KIND, -99, 99, n -> bench.best(3, 0, 0, n));
        severalForRange(s -> bench.best(s, 100, 0, 0));
        promise("26: no such shelf");
        noShelf(s -> bench.firstBest(s, 1, 0, 0));
        notSolid("26: not of the dimension 3", () -> bench.firstBest(1, 1, 1, 0));
        range(KIND, -99, 99, n -> bench.firstBest(0, n, 0, 0));
        range(KIND, -99, 99, n -> bench.firstBest(0, 0, n, 0));
        range(KIND, -99, 99, n -> bench.firstBest(3, 0, 0, n));
        severalForRange(s -> bench.firstBest(s, 0, 0, -100));
    }

    private static void counts() {
        promise("27: no such shelf");
        noShelf(s -> bench.count(s, 1));
        notSolid("27: not of the dimension 3", () -> bench.count(1, 0));
        range(KIND, 0, 4, n -> bench.count(0, n));
        severalForRange(s -> bench.count(s, -1));
        promise("28: no such shelf");
        noShelf(s -> bench.inner(s, 1));
        notSolid("28: not of the dimension 3", () -> bench.inner(1, 1));
        range(KIND, 1, 4, n -> bench.inner(0, n));
        severalForRange(s -> bench.inner(s, 0));
        start("27 and 28: k out of range, and the box too great", x -> makeGreat(x, 0, 'c', 64));
        refusedAndForgotten(SIZE, () -> bench.count(0, 1));
        refusedAndForgotten(SIZE, () -> bench.count(0, 4));
        refusedAndForgotten(KIND, () -> bench.count(0, 5));
        refusedAndForgotten(KIND, () -> bench.count(0, -1));
        refusedAndForgotten(SIZE, () -> bench.inner(0, 1));
        refusedAndForgotten(SIZE, () -> bench.inner(0, 4));
        refusedAndForgotten(KIND, () -> bench.inner(0, 5));
        refusedAndForgotten(KIND, () -> bench.inner(0, 0));
        refusedAndForgotten(SHELF, () -> bench.count(4, 4));
        refusedAndForgotten(SHELF, () -> bench.inner(4, 4));
        allowed(() -> bench.count(0, 0));
    }

    private static void coefficient() {
        promise("29: no such shelf");
        bench.make(3, 's', 1);
        for (int shelf : new int[] {-1, 4, LOW, TOP}) {
            refused(SHELF, () -> bench.coefficient(shelf, 0));
        }
        due(6, bench.coefficient(0, 0));
        due(6, bench.coefficient(3, 0));
        notSolid("29: not of the dimension 3", () -> bench.coefficient(1, 0));
        range(KIND, 0, 3, n -> bench.coefficient(0, n));
        // Shelf 3 has a body that is not whole.
        severalForRange(s -> bench.coefficient(s, 4));
        severalForRange(s -> bench.coefficient(s, -1));
        for (int power = 0; power <= 3; power++) {
            int p = power;
            refusedAndForgotten(NONE, () -> bench.coefficient(3, p));
        }
        start("29: the box too great", x -> {
            makeGreat(x, 0, 'c', 64);
            makeGreat(x, 1, 'c', 64);
            x.cut(1, 1, 2, 0, 0, 1);
        });
        for (int power = 0; power <= 3; power++) {
            int p = power;
            refusedAndForgotten(SIZE, () -> bench.coefficient(0, p));
            refusedAndForgotten(NONE, () -> bench.coefficient(1, p));
        }
        refusedAndForgotten(KIND, () -> bench.coefficient(0, 4));
        refusedAndForgotten(KIND, () -> bench.coefficient(1, -1));
    }

    private static void isReflexive() {
        promise("30: no such shelf");
        noShelf(s -> bench.isReflexive(s));
        notSolid("30: not of the dimension 3", () -> bench.isReflexive(1));
    }

    private static void volumes() {
        promise("31: no such shelf");
        noShelf(s -> bench.volume(s, 'n'));
        notSolid("31: not of the dimension 3", () -> bench.volume(1, 'd'));
        letters("nd", c -> bench.volume(3, (char) c));
        severalForRange(s -> bench.volume(s, 'x'));
        promise("32: no such shelf");
        noShelf(s -> bench.volumeAnew(s, 'n'));
        notSolid("32: not of the dimension 3", () -> bench.volumeAnew(1, 'd'));
        letters("nd", c -> bench.volumeAnew(3, (char) c));
        severalForRange(s -> bench.volumeAnew(s, 'x'));
        start("31 and 32: no such part, and the least common w above 60", x -> {
            x.make(0, 'c', 1);
            x.cut(0, 0, 7, 0, 0, 1);
            x.cut(0, 0, 0, 9, 0, 1);
        });
        for (char part : "nd".toCharArray()) {
            refusedAndForgotten(SIZE, () -> bench.volume(0, part));
            refusedAndForgotten(SIZE, () -> bench.volumeAnew(0, part));
        }
        refusedAndForgotten(KIND, () -> bench.volume(0, 'e'));
        refusedAndForgotten(KIND, () -> bench.volumeAnew(0, 'e'));
    }

    private static void figures() {
        promise("33: no such shelf");
        noShelf(s -> bench.meanDegree(s));
        notSolid("33: not of the dimension 3", () -> bench.meanDegree(1));
        promise("34: no such shelf");
        noShelf(s -> bench.middle(s, 'x'));
        notSolid("34: not of the dimension 3", () -> bench.middle(1, 'z'));
        letters("xyz", c -> bench.middle(3, (char) c));
        severalForRange(s -> bench.middle(s, 'w'));
    }
}
