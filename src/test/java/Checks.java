import java.util.NoSuchElementException;
import java.util.function.Consumer;
import java.util.function.IntFunction;

/** What the tests of single calls have in common: a bench, answers that are due, and calls that are refused. */
abstract class Checks {
    static final Class<? extends Exception> SHELF = IndexOutOfBoundsException.class;
    static final Class<? extends Exception> KIND = IllegalArgumentException.class;
    static final Class<? extends Exception> FULL = IllegalStateException.class;
    static final Class<? extends Exception> SIZE = ArithmeticException.class;
    static final Class<? extends Exception> FLAT = UnsupportedOperationException.class;
    static final Class<? extends Exception> NONE = NoSuchElementException.class;
    static final int LOW = Integer.MIN_VALUE;
    static final int TOP = Integer.MAX_VALUE;

    static PolytopeBench bench;
    static int wrong;
    private static String sentence;
    private static Consumer<PolytopeBench> setUp = b -> { };

    interface Call {
        Object answer();
    }

    /** Starts the test of a sentence of the document, with a new bench. */
    static void start(String told) {
        start(told, b -> { });
    }

    /** The same, with calls that come first on every new bench. */
    static void start(String told, Consumer<PolytopeBench> first) {
        sentence = told;
        setUp = first;
        again();
    }

    static void again() {
        bench = new PolytopeBench();
        setUp.accept(bench);
    }

    static void finish(String name) {
        System.out.println(name + ": " + (wrong == 0 ? "all answers are as due" : wrong + " answers are not as due"));
        if (wrong > 0) {
            System.exit(1);
        }
    }

    static void due(Object want, Object got) {
        if (!want.equals(got)) {
            fault(got + ", due is " + want);
        }
    }

    static void fault(String told) {
        wrong++;
        StringBuilder lines = new StringBuilder();
        for (StackTraceElement at : new Throwable().getStackTrace()) {
            boolean isHelper = at.getClassName().startsWith("Checks");
            if (!isHelper && !at.getMethodName().equals("main") && !at.getClassName().startsWith("java")) {
                lines.append(' ').append(at.getLineNumber());
            }
        }
        System.out.println(sentence + ", lines" + lines + ": " + told);
    }

    static Object outcome(Call call) {
        try {
            return call.answer();
        } catch (RuntimeException e) {
            return e.getClass();
        }
    }

    /** Due is an exception of just this class, and nothing may have changed. */
    static void refused(Class<? extends Exception> want, Call call) {
        String before = all(bench);
        due(want, outcome(call));
        if (!before.equals(all(bench))) {
            fault("the call changed something");
        }
    }

    /** Due is any answer, on a bench that is as the start made it. */
    static void allowed(Call call) {
        again();
        Object got = outcome(call);
        if (got instanceof Class) {
            fault(got + ", due is an answer");
        }
    }

    /**
     * Due is an exception on a bench that is as the start made it; and later calls have to answer as on a bench that
     * never had this call: so points that are in no corner, and those of lesser bodies, are looked at too.
     */
    static void refusedAndForgotten(Class<? extends Exception> want, Call call) {
        again();
        due(want, outcome(call));
        String after = probe(bench);
        again();
        due(probe(bench), after);
        again();
    }

    /** Tells all of the shelves, and how many points they have as others come. */
    static String probe(PolytopeBench x) {
        StringBuilder told = new StringBuilder(all(x));
        for (int s = 0; s < 4; s++) {
            for (int i = 0; i < 27; i++) {
                int shelf = s;
                int p = i;
                told.append(outcome(() -> x.addPoint(shelf, p / 9 - 1, p / 3 % 3 - 1, p % 3 - 1))).append(' ');
            }
        }
        return told.append(all(x)).toString();
    }

    /** All that can be told of the shelves. */
    static String all(PolytopeBench x) {
        StringBuilder told = new StringBuilder();
        for (int s = 0; s < 4; s++) {
            told.append(x.points(s)).append(' ').append(x.dimension(s)).append(told(x, s)).append('\n');
        }
        return told.toString();
    }

    /** Corners, walls and edges of a body of the dimension 3. */
    static String told(PolytopeBench x, int s) {
        StringBuilder told = new StringBuilder();
        if (x.dimension(s) < 3) {
            return "";
        }
        for (int i = 0; i < x.corners(s); i++) {
            told.append(" (");
            for (char c : "xyzw".toCharArray()) {
                told.append(x.corner(s, i, c)).append(c == 'w' ? ')' : ' ');
            }
        }
        for (int u = 0; u < x.walls(s); u++) {
            told.append(' ').append(wall(x, s, u));
        }
        for (int e = 0; e < x.edges(s); e++) {
            told.append(' ').append(x.edgeEnd(s, e, false)).append('-').append(x.edgeEnd(s, e, true));
        }
        return told.toString();
    }

    static String wall(PolytopeBench x, int s, int u) {
        StringBuilder told = new StringBuilder("[");
        for (char c : "abcd".toCharArray()) {
            told.append(x.wall(s, u, c)).append(c == 'd' ? ']' : ' ');
        }
        return told.toString();
    }

    /** Returns whether a body has a wall of these numbers. */
    static boolean hasWall(int s, int a, int b, int c, int d) {
        for (int u = 0; u < bench.walls(s); u++) {
            if (wall(bench, s, u).equals("[" + a + " " + b + " " + c + " " + d + "]")) {
                return true;
            }
        }
        return false;
    }

    /** Wrong shelves for a call, and a shelf with a body of each lesser dimension. */
    static void shelves(IntFunction<Object> call, boolean isForSolids) {
        for (int shelf : new int[] {-1, 4, LOW, TOP}) {
            refused(SHELF, () -> call.apply(shelf));
        }
        if (isForSolids) {
            PolytopeBench kept = bench;
            bench = new PolytopeBench();
            int[][] few = {{1, 2, 3}, {2, 2, 3}, {3, 2, 3}, {1, 5, 3}, {1, 6, 3}};
            for (int[] p : few) {
                refused(FLAT, () -> call.apply(2));
                bench.addPoint(2, p[0], p[1], p[2]);
            }
            refused(FLAT, () -> call.apply(2));
            bench = kept;
        }
    }

    /** Adds points, told three numbers each. */
    static void addPoints(PolytopeBench x, int shelf, int... numbers) {
        for (int i = 0; i + 2 < numbers.length; i += 3) {
            x.addPoint(shelf, numbers[i], numbers[i + 1], numbers[i + 2]);
        }
    }

    /** Moves a shelf far, by as many calls as it takes. */
    static void shiftFar(PolytopeBench x, int shelf, int dx, int dy, int dz) {
        int[] left = {dx, dy, dz};
        while (left[0] != 0 || left[1] != 0 || left[2] != 0) {
            int[] step = new int[3];
            for (int i = 0; i < 3; i++) {
                step[i] = Math.max(-6, Math.min(6, left[i]));
                left[i] -= step[i];
            }
            x.shift(shelf, step[0], step[1], step[2]);
        }
    }

    /** Makes a body of a size up to 2000, by sums. */
    static void makeGreat(PolytopeBench x, int shelf, char kind, int size) {
        int spare = shelf == 3 ? 2 : 3;
        x.make(shelf, kind, 1);
        for (int bit = Integer.highestOneBit(size) / 2; bit > 0; bit /= 2) {
            x.sum(shelf, shelf, shelf);
            if ((size & bit) != 0) {
                x.make(spare, kind, 1);
                x.sum(shelf, shelf, spare);
            }
        }
        x.clear(spare);
    }

    /** Makes a box from the first three numbers to the last three. */
    static void makeBox(PolytopeBench x, int shelf, int... ends) {
        makeGreat(x, shelf, 'c', 128);
        for (int i = 0; i < 3; i++) {
            x.cut(shelf, shelf, i == 0 ? -1 : 0, i == 1 ? -1 : 0, i == 2 ? -1 : 0, -ends[i]);
            x.cut(shelf, shelf, i == 0 ? 1 : 0, i == 1 ? 1 : 0, i == 2 ? 1 : 0, ends[i + 3]);
        }
    }

    /** Adds points all at the distance that 41 is the square of, so that each is a corner. */
    static void makeRound(PolytopeBench x, int shelf, int step, int from, int most) {
        int[][] round = new int[96][];
        int place = 0;
        for (int i = 0; i < 13 * 13 * 13; i++) {
            int[] p = {i / 169 - 6, i / 13 % 13 - 6, i % 13 - 6};
            if (p[0] * p[0] + p[1] * p[1] + p[2] * p[2] == 41) {
                round[place] = p;
                place++;
            }
        }
        for (int i = from; i < most; i++) {
            int[] p = round[i * step % 96];
            x.addPoint(shelf, p[0], p[1], p[2]);
        }
    }
}
