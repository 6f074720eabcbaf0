import java.util.NoSuchElementException;

/**
 * A bench of bodies with flat walls in exact numbers.
 *
 * <p>Every row is made when the bench is made, and used again: a call makes no object but the exception it throws.
 * What is made comes on the spare body first, which changes places with a shelf's body only when all is well: so a
 * call that throws has changed nothing.
 */
public final class PolytopeBench {
    private static final int SHELVES = 4;
    private static final int MOST_POINTS = 60;
    /** A body of n corners has at most 2 n - 4 walls and 3 n - 6 edges. */
    private static final int MOST_EDGES = 174;
    /** While a point is added, at most 114 old walls and 59 new ones stand together. */
    private static final int WALL_ROOM = 180;
    private static final long POINT_SIZE = 2000;
    private static final long WALL_SIZE = 1000000000;
    private static final long MOST_BOX = 70000;
    private static final long MOST_SCALE = 60;
    /** Euclid's way needs fewer steps than this for any two longs. */
    private static final int GCD_STEPS = 200;

    private final Body[] shelves = new Body[SHELVES];
    private Body spare = new Body();
    private final Hull hull = new Hull();
    private final Likeness likeness = new Likeness();
    private final Box box = new Box();
    private final Wedges wedges = new Wedges();

    public PolytopeBench() {
        for (int i = 0; i < shelves.length; i++) {
            shelves[i] = new Body();
        }
    }

    // ---- making

    public int clear(int shelf) throws IndexOutOfBoundsException {
        checkShelf(shelf);
        int had = shelves[shelf].points.count;
        shelves[shelf].empty();
        return had;
    }

    public int addPoint(int shelf, int x, int y, int z)
            throws IndexOutOfBoundsException, IllegalArgumentException, IllegalStateException, ArithmeticException {
        checkShelf(shelf);
        checkRange(x, 6);
        checkRange(y, 6);
        checkRange(z, 6);
        Body body = shelves[shelf];
        if (body.points.find(x, y, z, 1) >= 0) {
            return body.points.count;
        }
        if (body.points.count >= MOST_POINTS) {
            throw new IllegalStateException("the shelf is full");
        }
        spare.copy(body);
        spare.points.add(x, y, z, 1);
        hull.extend(spare);
        checkSize(spare);
        return place(shelf).points.count;
    }

    public int make(int shelf, char kind, int size) throws IndexOutOfBoundsException, IllegalArgumentException {
        checkShelf(shelf);
        if (kind != 'c' && kind != 'o' && kind != 's') {
            throw new IllegalArgumentException("there is no such kind");
        }
        if (size < 1 || size > 6) {
            throw new IllegalArgumentException("the size is out of range");
        }
        spare.empty();
        if (kind == 'c') {
            addCube(spare.points, size);
        } else if (kind == 'o') {
            addAxes(spare.points, size);
            addAxes(spare.points, -size);
        } else {
            spare.points.add(0, 0, 0, 1);
            addAxes(spare.points, size);
        }
        hull.build(spare);
        return place(shelf).points.count;
    }

    public int shift(int shelf, int x, int y, int z)
            throws IndexOutOfBoundsException, IllegalArgumentException, ArithmeticException {
        checkShelf(shelf);
        checkRange(x, 6);
        checkRange(y, 6);
        checkRange(z, 6);
        spare.copy(shelves[shelf]);
        spare.move(x, y, z);
        checkSize(spare);
        return place(shelf).points.count;
    }

    public int sum(int to, int one, int other)
            throws IndexOutOfBoundsException, UnsupportedOperationException, IllegalStateException,
            ArithmeticException {
        checkShelf(to);
        checkShelf(one);
        checkShelf(other);
        Body first = solid(one);
        Body second = solid(other);
        spare.empty();
        if (!addSums(spare.points, first, second)) {
            throw new IllegalStateException("there are too many different sums");
        }
        finishSpare();
        return place(to).corners;
    }

    public int mirror(int to, int from)
            throws IndexOutOfBoundsException, UnsupportedOperationException, IllegalStateException,
            ArithmeticException {
        checkShelf(to);
        checkShelf(from);
        Body body = solid(from);
        if (!body.hasOriginInside()) {
            throw new UnsupportedOperationException("0, 0, 0 is not inside");
        }
        Walls walls = body.walls;
        if (walls.count > MOST_POINTS) {
            throw new IllegalStateException("there are too many points");
        }
        spare.empty();
        for (int u = 0; u < walls.count; u++) {
            spare.points.add(walls.a[u], walls.b[u], walls.c[u], walls.d[u]);
        }
        finishSpare();
        return place(to).corners;
    }

    public int cut(int to, int from, int a, int b, int c, int d)
            throws IndexOutOfBoundsException, IllegalArgumentException, UnsupportedOperationException,
            IllegalStateException, ArithmeticException {
        checkShelf(to);
        checkShelf(from);
        checkRange(a, 9);
        checkRange(b, 9);
        checkRange(c, 9);
        checkRange(d, 99);
        if (a == 0 && b == 0 && c == 0) {
            throw new IllegalArgumentException("a, b and c are 0");
        }
        Body body = solid(from);
        hull.plane.set(a, b, c, d);
        spare.empty();
        if (!addLeft(spare.points, body, hull.plane) || !addCrossings(spare.points, body, hull.plane)) {
            throw new IllegalStateException("there are too many points");
        }
        finishSpare();
        return place(to).points.count;
    }

    // ---- corners and walls

    public int points(int shelf) throws IndexOutOfBoundsException {
        checkShelf(shelf);
        return shelves[shelf].points.count;
    }

    public int dimension(int shelf) throws IndexOutOfBoundsException {
        checkShelf(shelf);
        return shelves[shelf].dimension;
    }

    public int corners(int shelf) throws IndexOutOfBoundsException, UnsupportedOperationException {
        return solid(shelf).corners;
    }

    public int corner(int shelf, int corner, char what)
            throws IndexOutOfBoundsException, UnsupportedOperationException, NoSuchElementException,
            IllegalArgumentException {
        Body body = solid(shelf);
        checkNumber(corner, body.corners);
        switch (what) {
            case 'x':
                return (int) body.points.x[corner];
            case 'y':
                return (int) body.points.y[corner];
            case 'z':
                return (int) body.points.z[corner];
            case 'w':
                return (int) body.points.w[corner];
            default:
                throw new IllegalArgumentException("there is no such letter");
        }
    }

    public int walls(int shelf) throws IndexOutOfBoundsException, UnsupportedOperationException {
        return solid(shelf).walls.count;
    }

    public int wall(int shelf, int wall, char what)
            throws IndexOutOfBoundsException, UnsupportedOperationException, NoSuchElementException,
            IllegalArgumentException {
        Body body = solid(shelf);
        checkNumber(wall, body.walls.count);
        switch (what) {
            case 'a':
                return (int) body.walls.a[wall];
            case 'b':
                return (int) body.walls.b[wall];
            case 'c':
                return (int) body.walls.c[wall];
            case 'd':
                return (int) body.walls.d[wall];
            default:
                throw new IllegalArgumentException("there is no such letter");
        }
    }

    public boolean touches(int shelf, int wall, int corner)
            throws IndexOutOfBoundsException, UnsupportedOperationException, NoSuchElementException {
        Body body = solid(shelf);
        checkNumber(wall, body.walls.count);
        checkNumber(corner, body.corners);
        return hasBit(body.walls.on[wall], corner);
    }

    public int edges(int shelf) throws IndexOutOfBoundsException, UnsupportedOperationException {
        return solid(shelf).edges.count;
    }

    public int edgeEnd(int shelf, int edge, boolean isHigher)
            throws IndexOutOfBoundsException, UnsupportedOperationException, NoSuchElementException {
        Body body = solid(shelf);
        checkNumber(edge, body.edges.count);
        return isHigher ? body.edges.high[edge] : body.edges.low[edge];
    }

    public int degree(int shelf, int corner)
            throws IndexOutOfBoundsException, UnsupportedOperationException, NoSuchElementException {
        Body body = solid(shelf);
        checkNumber(corner, body.corners);
        return Long.bitCount(body.edges.near[corner]);
    }

    public int sides(int shelf, int wall)
            throws IndexOutOfBoundsException, UnsupportedOperationException, NoSuchElementException {
        Body body = solid(shelf);
        checkNumber(wall, body.walls.count);
        return Long.bitCount(body.walls.on[wall] & body.cornerBits());
    }

    public int distance(int shelf, int corner, int other)
            throws IndexOutOfBoundsException, UnsupportedOperationException, NoSuchElementException {
        Body body = solid(shelf);
        checkNumber(corner, body.corners);
        checkNumber(other, body.corners);
        return stepsToReach(body, corner, 1L << other);
    }

    public int diameter(int shelf) throws IndexOutOfBoundsException, UnsupportedOperationException {
        Body body = solid(shelf);
        int greatest = 0;
        for (int i = 0; i < body.corners; i++) {
            greatest = Math.max(greatest, stepsToReach(body, i, body.cornerBits()));
        }
        return greatest;
    }

    public boolean areAlike(int shelf, int other) throws IndexOutOfBoundsException, UnsupportedOperationException {
        checkShelf(shelf);
        checkShelf(other);
        return likeness.isBetween(solid(shelf), solid(other));
    }

    public int shadow(int shelf, char axis)
            throws IndexOutOfBoundsException, UnsupportedOperationException, IllegalArgumentException {
        Body body = solid(shelf);
        checkAxis(axis);
        Points points = body.points;
        long[] u = axis == 'x' ? points.y : points.x;
        long[] v = axis == 'z' ? points.y : points.z;
        return flatCorners(u, v, points.w, body.corners);
    }

    // ---- programs and points

    public int has(int shelf, int x, int y, int z)
            throws IndexOutOfBoundsException, UnsupportedOperationException, IllegalArgumentException {
        Body body = solid(shelf);
        checkRange(x, 1000);
        checkRange(y, 1000);
        checkRange(z, 1000);
        Walls walls = body.walls;
        int where = 2;
        for (int u = 0; u < walls.count; u++) {
            long beyond = walls.a[u] * x + walls.b[u] * y + walls.c[u] * z - walls.d[u];
            if (beyond > 0) {
                return 0;
            }
            if (beyond == 0) {
                where = 1;
            }
        }
        return where;
    }

    public int best(int shelf, int a, int b, int c)
            throws IndexOutOfBoundsException, UnsupportedOperationException, IllegalArgumentException {
        Body body = solid(shelf);
        checkProgram(a, b, c);
        int first = findBest(body, a, b, c);
        int found = 0;
        for (int i = 0; i < body.corners; i++) {
            if (compareProgram(body.points, i, first, a, b, c) == 0) {
                found++;
            }
        }
        return found;
    }

    public int firstBest(int shelf, int a, int b, int c)
            throws IndexOutOfBoundsException, UnsupportedOperationException, IllegalArgumentException {
        Body body = solid(shelf);
        checkProgram(a, b, c);
        return findBest(body, a, b, c);
    }

    public int count(int shelf, int k)
            throws IndexOutOfBoundsException, UnsupportedOperationException, IllegalArgumentException,
            ArithmeticException {
        Body body = solid(shelf);
        if (k < 0 || k > 4) {
            throw new IllegalArgumentException("k is out of range");
        }
        checkBox(body, k);
        return (int) box.pointsIn(body, k, false);
    }

    public int inner(int shelf, int k)
            throws IndexOutOfBoundsException, UnsupportedOperationException, IllegalArgumentException,
            ArithmeticException {
        Body body = solid(shelf);
        if (k < 1 || k > 4) {
            throw new IllegalArgumentException("k is out of range");
        }
        checkBox(body, k);
        return (int) box.pointsIn(body, k, true);
    }

    public int coefficient(int shelf, int power)
            throws IndexOutOfBoundsException, UnsupportedOperationException, IllegalArgumentException,
            NoSuchElementException, ArithmeticException {
        Body body = solid(shelf);
        if (power < 0 || power > 3) {
            throw new IllegalArgumentException("the power is out of range");
        }
        if (!body.isWhole()) {
            throw new NoSuchElementException("the body is not whole");
        }
        checkBox(body, 3);
        box.countAll(body);
        return (int) box.sixfold(power);
    }

    public boolean isReflexive(int shelf) throws IndexOutOfBoundsException, UnsupportedOperationException {
        Body body = solid(shelf);
        if (!body.isWhole()) {
            return false;
        }
        // A wall's numbers have no common divisor: so its point of the mirror is whole just if its d is 1.
        for (int u = 0; u < body.walls.count; u++) {
            if (body.walls.d[u] != 1) {
                return false;
            }
        }
        return true;
    }

    // ---- volumes and figures

    public long volume(int shelf, char part)
            throws IndexOutOfBoundsException, UnsupportedOperationException, IllegalArgumentException,
            ArithmeticException {
        Body body = solid(shelf);
        long scale = checkPart(body, part);
        return partOf(wedges.fromCorner(body, scale), scale, part);
    }

    public long volumeAnew(int shelf, char part)
            throws IndexOutOfBoundsException, UnsupportedOperationException, IllegalArgumentException,
            ArithmeticException {
        Body body = solid(shelf);
        long scale = checkPart(body, part);
        return partOf(wedges.fromOrigin(body, scale), scale, part);
    }

    public float meanDegree(int shelf) throws IndexOutOfBoundsException, UnsupportedOperationException {
        Body body = solid(shelf);
        if (body.corners == 0) {
            return 0;
        }
        return (float) (2 * body.edges.count) / (float) body.corners;
    }

    public double middle(int shelf, char axis)
            throws IndexOutOfBoundsException, UnsupportedOperationException, IllegalArgumentException {
        Body body = solid(shelf);
        checkAxis(axis);
        Points points = body.points;
        long[] numbers = points.row(axis - 'x');
        double total = 0;
        for (int i = 0; i < body.corners; i++) {
            if (points.w[i] != 0) {
                total += (double) numbers[i] / (double) points.w[i];
            }
        }
        return body.corners == 0 ? 0 : total / (double) body.corners;
    }

    public boolean isSound() {
        for (int i = 0; i < shelves.length; i++) {
            Body body = shelves[i];
            if (body.dimension == 3 && !(isWellBuilt(body) && isWellMeasured(body))) {
                return false;
            }
        }
        return true;
    }

    // What the calls above refuse, each with its own exception.

    private void checkShelf(int shelf) {
        if (shelf < 0 || shelf >= shelves.length) {
            throw new IndexOutOfBoundsException("there is no such shelf");
        }
    }

    private Body solid(int shelf) {
        checkShelf(shelf);
        Body body = shelves[shelf];
        if (body.dimension != 3) {
            throw new UnsupportedOperationException("the body is not of the dimension 3");
        }
        return body;
    }

    private static void checkRange(int number, int most) {
        if (number < -most || number > most) {
            throw new IllegalArgumentException("a number is out of range");
        }
    }

    private static void checkProgram(int a, int b, int c) {
        checkRange(a, 99);
        checkRange(b, 99);
        checkRange(c, 99);
    }

    private static void checkNumber(int number, int count) {
        if (number < 0 || number >= count) {
            throw new NoSuchElementException("there is nothing of this number");
        }
    }

    private static void checkAxis(char axis) {
        if (axis != 'x' && axis != 'y' && axis != 'z') {
            throw new IllegalArgumentException("there is no such axis");
        }
    }

    private static void checkSize(Body body) {
        if (!body.points.fit() || !body.walls.fit()) {
            throw new ArithmeticException("a number is beyond its size");
        }
    }

    private void checkBox(Body body, int k) {
        box.stretch(body, k);
        if (box.size() > MOST_BOX) {
            throw new ArithmeticException("the box has too many points");
        }
    }

    private static long checkPart(Body body, char part) {
        if (part != 'n' && part != 'd') {
            throw new IllegalArgumentException("there is no such part");
        }
        long scale = body.scale();
        if (scale > MOST_SCALE) {
            throw new ArithmeticException("the corners have no small common w");
        }
        return scale;
    }

    // Making.

    private static void addCube(Points points, int size) {
        for (int signs = 0; signs < 8; signs++) {
            int x = (signs & 1) == 0 ? size : -size;
            int y = (signs & 2) == 0 ? size : -size;
            int z = (signs & 4) == 0 ? size : -size;
            points.add(x, y, z, 1);
        }
    }

    private static void addAxes(Points points, int size) {
        points.add(size, 0, 0, 1);
        points.add(0, size, 0, 1);
        points.add(0, 0, size, 1);
    }

    /** Returns false if there are more different sums than there is room for. */
    private static boolean addSums(Points sums, Body first, Body second) {
        Points one = first.points;
        Points other = second.points;
        for (int i = 0; i < first.corners; i++) {
            for (int j = 0; j < second.corners; j++) {
                long v = one.w[i];
                long w = other.w[j];
                long x = one.x[i] * w + other.x[j] * v;
                long y = one.y[i] * w + other.y[j] * v;
                long z = one.z[i] * w + other.z[j] * v;
                if (!sums.add(x, y, z, v * w)) {
                    return false;
                }
            }
        }
        return true;
    }

    private static boolean addLeft(Points left, Body body, Plane plane) {
        Points points = body.points;
        for (int i = 0; i < body.corners; i++) {
            if (plane.sideOf(points, i) <= 0
                    && !left.add(points.x[i], points.y[i], points.z[i], points.w[i])) {
                return false;
            }
        }
        return true;
    }

    private static boolean addCrossings(Points left, Body body, Plane plane) {
        Points points = body.points;
        for (int e = 0; e < body.edges.count; e++) {
            int i = body.edges.low[e];
            int j = body.edges.high[e];
            long atLow = plane.sideOf(points, i);
            long atHigh = plane.sideOf(points, j);
            boolean isCrossed = atLow < 0 && atHigh > 0 || atLow > 0 && atHigh < 0;
            if (isCrossed && !left.addBetween(points, i, j, Math.abs(atHigh), Math.abs(atLow))) {
                return false;
            }
        }
        return true;
    }

    /**
     * Finds what the points of the spare body tell, and leaves its corners alone. The sizes of points come first:
     * walls of points beyond their size would be beyond what a long can hold.
     */
    private void finishSpare() {
        checkSize(spare);
        hull.build(spare);
        checkSize(spare);
        spare.dropOthers();
    }

    private Body place(int shelf) {
        Body made = spare;
        spare = shelves[shelf];
        shelves[shelf] = made;
        return made;
    }

    // Ways, shadows and programs.

    /** Returns how many edges a shortest way to the farthest one of the wanted corners has. */
    private static int stepsToReach(Body body, int corner, long wanted) {
        long reached = 1L << corner;
        int steps = 0;
        while (steps < body.corners && (wanted & ~reached) != 0) {
            long next = reached;
            for (int i = 0; i < body.corners; i++) {
                if (hasBit(reached, i)) {
                    next |= body.edges.near[i];
                }
            }
            reached = next;
            steps++;
        }
        return steps;
    }

    /** Walks round the hull of flat points from its lowest one, taking the farthest point on each side. */
    private static int flatCorners(long[] u, long[] v, long[] w, int count) {
        int start = 0;
        for (int i = 1; i < count; i++) {
            if (compareFlat(u, v, w, i, start) < 0) {
                start = i;
            }
        }
        int at = start;
        for (int found = 1; found <= count; found++) {
            int next = nextFlat(u, v, w, count, at);
            if (compareFlat(u, v, w, next, start) == 0) {
                return found;
            }
            at = next;
        }
        return count;
    }

    private static int nextFlat(long[] u, long[] v, long[] w, int count, int at) {
        int next = at;
        for (int i = 0; i < count; i++) {
            if (compareFlat(u, v, w, i, at) == 0) {
                continue;
            }
            long turn = det(u, v, w, at, next, i);
            boolean isFarther = turn == 0
                    && compareFlat(u, v, w, i, next) * compareFlat(u, v, w, i, at) > 0;
            if (next == at || turn < 0 || isFarther) {
                next = i;
            }
        }
        return next;
    }

    private static int compareFlat(long[] u, long[] v, long[] w, int i, int j) {
        int byU = Long.compare(u[i] * w[j], u[j] * w[i]);
        return byU != 0 ? byU : Long.compare(v[i] * w[j], v[j] * w[i]);
    }

    private static int findBest(Body body, int a, int b, int c) {
        int first = 0;
        for (int i = 1; i < body.corners; i++) {
            if (compareProgram(body.points, i, first, a, b, c) > 0) {
                first = i;
            }
        }
        return first;
    }

    private static int compareProgram(Points points, int i, int j, int a, int b, int c) {
        long atI = points.x[i] * a + points.y[i] * b + points.z[i] * c;
        long atJ = points.x[j] * a + points.y[j] * b + points.z[j] * c;
        return Long.compare(atI * points.w[j], atJ * points.w[i]);
    }

    // Counting, volumes and soundness.

    private static long partOf(long sixfold, long scale, char part) {
        long cube = scale * scale * scale;
        long divisor = gcd(sixfold, cube);
        long whole = part == 'n' ? sixfold : cube;
        return divisor == 0 ? whole : whole / divisor;
    }

    private static boolean isWellBuilt(Body body) {
        if (body.corners - body.edges.count + body.walls.count != 2) {
            return false;
        }
        for (int u = 0; u < body.walls.count; u++) {
            for (int i = 0; i < body.corners; i++) {
                if (body.walls.sideOf(u, body.points, i) > 0) {
                    return false;
                }
            }
        }
        for (int e = 0; e < body.edges.count; e++) {
            if (wallsAt(body, e) != 2) {
                return false;
            }
        }
        return true;
    }

    private static int wallsAt(Body body, int edge) {
        long ends = 1L << body.edges.low[edge] | 1L << body.edges.high[edge];
        int found = 0;
        for (int u = 0; u < body.walls.count; u++) {
            if ((body.walls.on[u] & ends) == ends) {
                found++;
            }
        }
        return found;
    }

    private boolean isWellMeasured(Body body) {
        long scale = body.scale();
        if (scale <= MOST_SCALE && wedges.fromCorner(body, scale) != wedges.fromOrigin(body, scale)) {
            return false;
        }
        box.stretch(body, 3);
        if (!body.isWhole() || box.size() > MOST_BOX) {
            return true;
        }
        box.countAll(body);
        long atMinusOne = box.sixfold(0) - box.sixfold(1) + box.sixfold(2) - box.sixfold(3);
        return 6 * box.pointsIn(body, 1, true) == -atMinusOne;
    }

    // Numbers.

    private static long gcd(long one, long other) {
        long p = one < 0 ? -one : one;
        long q = other < 0 ? -other : other;
        for (int step = 0; step < GCD_STEPS && q != 0; step++) {
            long rest = p % q;
            p = q;
            q = rest;
        }
        return p;
    }

    /** Returns the determinant of three rows, of three columns of numbers. */
    private static long det(long[] u, long[] v, long[] w, int i, int j, int k) {
        return u[i] * (v[j] * w[k] - w[j] * v[k])
                - v[i] * (u[j] * w[k] - w[j] * u[k])
                + w[i] * (u[j] * v[k] - v[j] * u[k]);
    }

    private static boolean hasBit(long bits, int number) {
        return (bits >>> number & 1) != 0;
    }

    private static int lowestBit(long bits) {
        return Long.bitCount((bits & -bits) - 1);
    }

    /** Points by x, y, z and w, of which x / w, y / w and z / w tell the place. */
    private static final class Points {
        final long[] x = new long[MOST_POINTS];
        final long[] y = new long[MOST_POINTS];
        final long[] z = new long[MOST_POINTS];
        final long[] w = new long[MOST_POINTS];
        int count;

        /** Adds a point in its shortest numbers, if it is not there; returns false if there is no room for it. */
        boolean add(long px, long py, long pz, long pw) {
            long divisor = gcd(gcd(px, py), gcd(pz, pw));
            if (divisor == 0) {
                return false;
            }
            long sx = px / divisor;
            long sy = py / divisor;
            long sz = pz / divisor;
            long sw = pw / divisor;
            if (find(sx, sy, sz, sw) >= 0) {
                return true;
            }
            if (count >= MOST_POINTS) {
                return false;
            }
            x[count] = sx;
            y[count] = sy;
            z[count] = sz;
            w[count] = sw;
            count++;
            return true;
        }

        /** Adds the point of which the numbers are those of two points, each as often as told, together. */
        boolean addBetween(Points from, int i, int j, long ofI, long ofJ) {
            return add(from.x[i] * ofI + from.x[j] * ofJ, from.y[i] * ofI + from.y[j] * ofJ,
                    from.z[i] * ofI + from.z[j] * ofJ, from.w[i] * ofI + from.w[j] * ofJ);
        }

        int find(long px, long py, long pz, long pw) {
            for (int i = 0; i < count; i++) {
                if (x[i] == px && y[i] == py && z[i] == pz && w[i] == pw) {
                    return i;
                }
            }
            return -1;
        }

        int compareOrder(int i, int j) {
            int byX = Long.compare(x[i] * w[j], x[j] * w[i]);
            if (byX != 0) {
                return byX;
            }
            int byY = Long.compare(y[i] * w[j], y[j] * w[i]);
            return byY != 0 ? byY : Long.compare(z[i] * w[j], z[j] * w[i]);
        }

        void swap(int i, int j) {
            swapIn(x, i, j);
            swapIn(y, i, j);
            swapIn(z, i, j);
            swapIn(w, i, j);
        }

        /** Returns the numbers along an axis of 0 to 2. */
        long[] row(int axis) {
            return axis == 0 ? x : axis == 1 ? y : z;
        }

        void copy(Points from) {
            count = from.count;
            System.arraycopy(from.x, 0, x, 0, count);
            System.arraycopy(from.y, 0, y, 0, count);
            System.arraycopy(from.z, 0, z, 0, count);
            System.arraycopy(from.w, 0, w, 0, count);
        }

        boolean fit() {
            for (int i = 0; i < count; i++) {
                long greatest = Math.max(Math.max(Math.abs(x[i]), Math.abs(y[i])), Math.max(Math.abs(z[i]), w[i]));
                if (greatest > POINT_SIZE) {
                    return false;
                }
            }
            return true;
        }

        static void swapIn(long[] numbers, int i, int j) {
            long kept = numbers[i];
            numbers[i] = numbers[j];
            numbers[j] = kept;
        }
    }

    /** The numbers of a plane: at most d for a x + b y + c z is its lower side. */
    private static final class Plane {
        long a;
        long b;
        long c;
        long d;

        void set(long pa, long pb, long pc, long pd) {
            a = pa;
            b = pb;
            c = pc;
            d = pd;
        }

        /** Returns false if the three points are on a line, and so in no plane alone. */
        boolean setThrough(Points points, int i, int j, int k) {
            a = det(points.y, points.z, points.w, i, j, k);
            b = -det(points.x, points.z, points.w, i, j, k);
            c = det(points.x, points.y, points.w, i, j, k);
            d = det(points.x, points.y, points.z, i, j, k);
            long divisor = gcd(gcd(a, b), gcd(c, d));
            if (divisor == 0) {
                return false;
            }
            set(a / divisor, b / divisor, c / divisor, d / divisor);
            return true;
        }

        /** Returns a number below 0, 0 or above 0 for a point below, in or above the plane. */
        long sideOf(Points points, int i) {
            return a * points.x[i] + b * points.y[i] + c * points.z[i] - d * points.w[i];
        }
    }

    /** Walls by their numbers, with a bit for each point of the body that is on them. */
    private static final class Walls {
        final long[] a = new long[WALL_ROOM];
        final long[] b = new long[WALL_ROOM];
        final long[] c = new long[WALL_ROOM];
        final long[] d = new long[WALL_ROOM];
        final long[] on = new long[WALL_ROOM];
        int count;

        void add(Plane plane, long points) {
            if (count >= WALL_ROOM) {
                return;
            }
            a[count] = plane.a;
            b[count] = plane.b;
            c[count] = plane.c;
            d[count] = plane.d;
            on[count] = points;
            count++;
        }

        long sideOf(int wall, Points points, int i) {
            return a[wall] * points.x[i] + b[wall] * points.y[i] + c[wall] * points.z[i]
                    - d[wall] * points.w[i];
        }

        void findPoints(Points points) {
            for (int u = 0; u < count; u++) {
                on[u] = 0;
                for (int i = 0; i < points.count; i++) {
                    if (sideOf(u, points, i) == 0) {
                        on[u] |= 1L << i;
                    }
                }
            }
        }

        void sort() {
            for (int u = 1; u < count; u++) {
                for (int v = u; v > 0 && compareOrder(v - 1, v) > 0; v--) {
                    swap(v - 1, v);
                }
            }
        }

        int compareOrder(int u, int v) {
            if (a[u] != a[v]) {
                return Long.compare(a[u], a[v]);
            }
            if (b[u] != b[v]) {
                return Long.compare(b[u], b[v]);
            }
            return c[u] != c[v] ? Long.compare(c[u], c[v]) : Long.compare(d[u], d[v]);
        }

        void swap(int u, int v) {
            Points.swapIn(a, u, v);
            Points.swapIn(b, u, v);
            Points.swapIn(c, u, v);
            Points.swapIn(d, u, v);
            Points.swapIn(on, u, v);
        }

        /** Returns the numbers that go with an axis of 0 to 2. */
        long[] row(int axis) {
            return axis == 0 ? a : axis == 1 ? b : c;
        }

        void copy(Walls from) {
            count = from.count;
            System.arraycopy(from.a, 0, a, 0, count);
            System.arraycopy(from.b, 0, b, 0, count);
            System.arraycopy(from.c, 0, c, 0, count);
            System.arraycopy(from.d, 0, d, 0, count);
            System.arraycopy(from.on, 0, on, 0, count);
        }

        boolean fit() {
            for (int u = 0; u < count; u++) {
                long greatest = Math.max(Math.max(Math.abs(a[u]), Math.abs(b[u])),
                        Math.max(Math.abs(c[u]), Math.abs(d[u])));
                if (greatest > WALL_SIZE) {
                    return false;
                }
            }
            return true;
        }
    }

    /** Edges by their corners, with the two walls that they are on. */
    private static final class Edges {
        final int[] low = new int[MOST_EDGES];
        final int[] high = new int[MOST_EDGES];
        final int[] one = new int[MOST_EDGES];
        final int[] other = new int[MOST_EDGES];
        final long[] near = new long[MOST_POINTS];
        int count;

        void empty() {
            count = 0;
            for (int i = 0; i < near.length; i++) {
                near[i] = 0;
            }
        }

        /** Adds an edge at its place in the order. */
        void add(int lower, int higher, int firstWall, int secondWall) {
            if (count >= MOST_EDGES || lower < 0 || higher >= MOST_POINTS || lower >= higher) {
                return;
            }
            int at = count;
            for (; at > 0 && isBehind(at - 1, lower, higher); at--) {
                low[at] = low[at - 1];
                high[at] = high[at - 1];
                one[at] = one[at - 1];
                other[at] = other[at - 1];
            }
            low[at] = lower;
            high[at] = higher;
            one[at] = firstWall;
            other[at] = secondWall;
            near[lower] |= 1L << higher;
            near[higher] |= 1L << lower;
            count++;
        }

        boolean isBehind(int edge, int lower, int higher) {
            return low[edge] != lower ? low[edge] > lower : high[edge] > higher;
        }

        boolean isOn(int edge, int wall) {
            return one[edge] == wall || other[edge] == wall;
        }

        void copy(Edges from) {
            count = from.count;
            System.arraycopy(from.low, 0, low, 0, count);
            System.arraycopy(from.high, 0, high, 0, count);
            System.arraycopy(from.one, 0, one, 0, count);
            System.arraycopy(from.other, 0, other, 0, count);
            System.arraycopy(from.near, 0, near, 0, near.length);
        }
    }

    /**
     * The hull of points. The corners of a body of the dimension 3 are its first points, in their order: so the number
     * of a corner is that of its point.
     */
    private static final class Body {
        final Points points = new Points();
        final Walls walls = new Walls();
        final Edges edges = new Edges();
        int corners;
        int dimension = -1;

        void empty() {
            points.count = 0;
            emptyHull();
        }

        void emptyHull() {
            walls.count = 0;
            edges.empty();
            corners = 0;
            dimension = -1;
        }

        void copy(Body from) {
            points.copy(from.points);
            walls.copy(from.walls);
            edges.copy(from.edges);
            corners = from.corners;
            dimension = from.dimension;
        }

        /** Moves what there is: the order of corners and walls stays, and so do the common divisors. */
        void move(int x, int y, int z) {
            for (int i = 0; i < points.count; i++) {
                points.x[i] += points.w[i] * x;
                points.y[i] += points.w[i] * y;
                points.z[i] += points.w[i] * z;
            }
            for (int u = 0; u < walls.count; u++) {
                walls.d[u] += walls.a[u] * x + walls.b[u] * y + walls.c[u] * z;
            }
        }

        /** Forgets the points that are no corners, if the body is of the dimension 3. */
        void dropOthers() {
            if (dimension != 3) {
                return;
            }
            points.count = corners;
            for (int u = 0; u < walls.count; u++) {
                walls.on[u] &= cornerBits();
            }
        }

        long cornerBits() {
            return (1L << corners) - 1;
        }

        boolean hasOriginInside() {
            for (int u = 0; u < walls.count; u++) {
                if (walls.d[u] <= 0) {
                    return false;
                }
            }
            return true;
        }

        boolean isWhole() {
            for (int i = 0; i < corners; i++) {
                if (points.w[i] != 1) {
                    return false;
                }
            }
            return true;
        }

        /** Returns the least whole number that all w of corners divide, or one above what is asked for. */
        long scale() {
            long scale = 1;
            for (int i = 0; i < corners && scale <= MOST_SCALE; i++) {
                long divisor = gcd(scale, points.w[i]);
                if (divisor != 0) {
                    scale = scale / divisor * points.w[i];
                }
            }
            return scale;
        }
    }

    /** Finds the dimension, walls, corners and edges of a body out of its points. */
    private static final class Hull {
        final Plane plane = new Plane();
        private final int[] base = new int[4];
        private final long[] side = new long[WALL_ROOM];
        private long known;

        void build(Body body) {
            body.emptyHull();
            body.dimension = findBase(body.points);
            if (body.dimension != 3) {
                return;
            }
            known = 0;
            for (int i = 0; i < 4; i++) {
                known |= 1L << base[i];
            }
            for (int i = 0; i < 4; i++) {
                addWall(body, base[i], base[i + 1 & 3], base[i + 2 & 3]);
            }
            for (int i = 0; i < body.points.count; i++) {
                if (!hasBit(known, i)) {
                    grow(body, i);
                }
            }
            settle(body);
        }

        /** Brings in the last point of a body for which all else stands. */
        void extend(Body body) {
            if (body.dimension != 3) {
                build(body);
                return;
            }
            int last = body.points.count - 1;
            known = (1L << last) - 1;
            grow(body, last);
            settle(body);
        }

        /** Returns the dimension, and keeps the first points that span it. */
        private int findBase(Points points) {
            int dimension = Math.min(points.count, 2) - 1;
            base[0] = 0;
            base[1] = 1;
            for (int i = 2; i < points.count; i++) {
                if (dimension == 1 && plane.setThrough(points, 0, 1, i)) {
                    base[2] = i;
                    dimension = 2;
                } else if (dimension == 2 && plane.sideOf(points, i) != 0) {
                    base[3] = i;
                    return 3;
                }
            }
            return dimension;
        }

        /** Adds the wall through three points. The points known so far tell which side of it is below. */
        private void addWall(Body body, int i, int j, int k) {
            if (!plane.setThrough(body.points, i, j, k)) {
                return;
            }
            long on = 0;
            boolean isUpsideDown = false;
            for (int p = 0; p < body.points.count; p++) {
                if (hasBit(known, p)) {
                    long at = plane.sideOf(body.points, p);
                    on |= at == 0 ? 1L << p : 0;
                    isUpsideDown |= at > 0;
                }
            }
            if (isUpsideDown) {
                plane.set(-plane.a, -plane.b, -plane.c, -plane.d);
            }
            body.walls.add(plane, on);
        }

        /**
         * Makes the hull greater by a point: the walls that it sees go, and others from it to their rim come. No two of
         * these are in one plane: this would be the plane of an old wall with two edges of the rim, which would be
         * neither seen nor unseen.
         */
        private void grow(Body body, int point) {
            Walls walls = body.walls;
            int old = walls.count;
            boolean isOutside = false;
            known |= 1L << point;
            for (int u = 0; u < old; u++) {
                side[u] = walls.sideOf(u, body.points, point);
                isOutside |= side[u] > 0;
                if (side[u] == 0) {
                    walls.on[u] |= 1L << point;
                }
            }
            if (!isOutside) {
                return;
            }
            for (int u = 0; u < old; u++) {
                for (int v = 0; v < old && side[u] > 0; v++) {
                    // Two walls that have two points in common have an edge in common.
                    long common = walls.on[u] & walls.on[v];
                    if (side[v] < 0 && Long.bitCount(common) >= 2) {
                        addWall(body, lowestBit(common), lowestBit(common & common - 1), point);
                    }
                }
            }
            dropSeen(walls, old);
        }

        private void dropSeen(Walls walls, int old) {
            int kept = 0;
            for (int u = 0; u < walls.count; u++) {
                if (u >= old || side[u] <= 0) {
                    walls.swap(kept, u);
                    kept++;
                }
            }
            walls.count = kept;
        }

        /** Numbers corners, walls and edges. */
        private void settle(Body body) {
            orderCorners(body);
            body.walls.findPoints(body.points);
            body.walls.sort();
            body.edges.empty();
            for (int u = 0; u < body.walls.count; u++) {
                for (int v = u + 1; v < body.walls.count; v++) {
                    long common = body.walls.on[u] & body.walls.on[v] & body.cornerBits();
                    if (Long.bitCount(common) == 2) {
                        body.edges.add(lowestBit(common), lowestBit(common & common - 1), u, v);
                    }
                }
            }
        }

        private void orderCorners(Body body) {
            Points points = body.points;
            long isCorner = 0;
            for (int i = 0; i < points.count; i++) {
                isCorner |= isAlone(body.walls, i) ? 1L << i : 0;
            }
            int found = 0;
            for (int i = 0; i < points.count; i++) {
                if (hasBit(isCorner, i)) {
                    points.swap(found, i);
                    found++;
                }
            }
            for (int i = 1; i < found; i++) {
                for (int j = i; j > 0 && points.compareOrder(j - 1, j) > 0; j--) {
                    points.swap(j - 1, j);
                }
            }
            body.corners = found;
        }

        /** A corner is the only point that is on all of its walls. */
        private static boolean isAlone(Walls walls, int point) {
            long common = -1;
            for (int u = 0; u < walls.count; u++) {
                if (hasBit(walls.on[u], point)) {
                    common &= walls.on[u];
                }
            }
            return common == 1L << point;
        }
    }

    /**
     * Tells whether bodies are alike, by flags. A flag is an edge with one of its ends and one of its walls; its number
     * is 4 times that of the edge, and 2 more for the higher end, and 1 more for the higher wall. Other than the flag
     * in one of the three is just one flag each time, and these steps lead to every flag: so a match is known as a
     * whole from that of one flag.
     */
    private static final class Likeness {
        private final int[] turns = new int[4 * MOST_EDGES];
        private final int[] otherTurns = new int[4 * MOST_EDGES];
        private final int[] image = new int[4 * MOST_EDGES];
        private final int[] queue = new int[4 * MOST_EDGES];
        private int waiting;

        boolean isBetween(Body one, Body other) {
            boolean isCountSame = one.corners == other.corners && one.walls.count == other.walls.count
                    && one.edges.count == other.edges.count;
            if (!isCountSame) {
                return false;
            }
            findTurns(one.edges, turns);
            findTurns(other.edges, otherTurns);
            int flags = 4 * one.edges.count;
            for (int to = 0; to < flags; to++) {
                if (isMatch(to, flags)) {
                    return true;
                }
            }
            return false;
        }

        /** Finds, for each flag, the one with the other edge at the same end of the same wall. */
        private void findTurns(Edges edges, int[] found) {
            for (int flag = 0; flag < 4 * edges.count; flag++) {
                int end = endOf(edges, flag);
                int wall = wallOf(edges, flag);
                found[flag] = -1;
                for (int e = 0; e < edges.count && found[flag] < 0; e++) {
                    found[flag] = e == flag / 4 ? -1 : flagOf(edges, e, end, wall);
                }
            }
        }

        private static int endOf(Edges edges, int flag) {
            return (flag & 2) == 0 ? edges.low[flag / 4] : edges.high[flag / 4];
        }

        private static int wallOf(Edges edges, int flag) {
            return (flag & 1) == 0 ? edges.one[flag / 4] : edges.other[flag / 4];
        }

        private static int flagOf(Edges edges, int edge, int end, int wall) {
            if (edges.low[edge] != end && edges.high[edge] != end || !edges.isOn(edge, wall)) {
                return -1;
            }
            return 4 * edge + (edges.high[edge] == end ? 2 : 0) + (edges.other[edge] == wall ? 1 : 0);
        }

        private boolean isMatch(int to, int flags) {
            for (int flag = 0; flag < flags; flag++) {
                image[flag] = -1;
            }
            waiting = 0;
            boolean isGood = isMatched(0, to);
            for (int at = 0; at < flags && at < waiting && isGood; at++) {
                int flag = queue[at];
                int there = image[flag];
                isGood = isMatched(flag ^ 1, there ^ 1) && isMatched(flag ^ 2, there ^ 2)
                        && isMatched(turns[flag], otherTurns[there]);
            }
            return isGood;
        }

        /** Matches a flag that has no match yet; returns false if it has another one. */
        private boolean isMatched(int flag, int to) {
            if (flag < 0 || to < 0) {
                return false;
            }
            if (image[flag] < 0) {
                image[flag] = to;
                queue[waiting] = flag;
                waiting++;
            }
            return image[flag] == to;
        }
    }

    /**
     * The least box of whole numbers around a body that is made greater, the whole points of the body in it, and the
     * polynomial that tells them. Axes are told by 0 to 2.
     */
    private static final class Box {
        private final long[] low = new long[3];
        private final long[] high = new long[3];
        private final long[] counts = new long[4];

        void stretch(Body body, int k) {
            for (int axis = 0; axis < 3; axis++) {
                low[axis] = lowest(body, body.points.row(axis), k);
                high[axis] = -lowest(body, body.points.row(axis), -k);
            }
        }

        /** Returns the least of k times a number of the corners, rounded down. */
        private static long lowest(Body body, long[] numbers, int k) {
            long least = 0;
            for (int i = 0; i < body.corners; i++) {
                long w = body.points.w[i];
                long rounded = w == 0 ? 0 : Math.floorDiv(numbers[i] * k, w);
                least = i == 0 ? rounded : Math.min(least, rounded);
            }
            return least;
        }

        private long side(int axis) {
            return high[axis] - low[axis] + 1;
        }

        long size() {
            return side(0) * side(1) * side(2);
        }

        /** Counts by columns along the longest side of the box: so they are few. */
        long pointsIn(Body body, int k, boolean isInner) {
            stretch(body, k);
            int along = side(0) > side(1) ? 0 : 1;
            along = side(2) > side(along) ? 2 : along;
            int one = (along + 1) % 3;
            int other = (along + 2) % 3;
            long found = 0;
            for (long u = low[one]; u <= high[one]; u++) {
                for (long v = low[other]; v <= high[other]; v++) {
                    found += pointsAt(body.walls, along, k, isInner, u, v);
                }
            }
            return found;
        }

        /** Counts the whole points of a column, which is cut by each wall from above or from below. */
        private long pointsAt(Walls walls, int along, int k, boolean isInner, long u, long v) {
            long[] rise = walls.row(along);
            long[] one = walls.row((along + 1) % 3);
            long[] other = walls.row((along + 2) % 3);
            long from = low[along];
            long to = high[along];
            for (int i = 0; i < walls.count && from <= to; i++) {
                long most = walls.d[i] * k - one[i] * u - other[i] * v - (isInner ? 1 : 0);
                if (rise[i] > 0) {
                    to = Math.min(to, Math.floorDiv(most, rise[i]));
                } else if (rise[i] < 0) {
                    from = Math.max(from, -Math.floorDiv(most, -rise[i]));
                } else if (most < 0) {
                    to = from - 1;
                }
            }
            return Math.max(0, to - from + 1);
        }

        /** Counts the whole points of a body made 0 to 3 times as great, which tell the polynomial. */
        void countAll(Body body) {
            for (int k = 0; k < counts.length; k++) {
                counts[k] = pointsIn(body, k, false);
            }
        }

        /** Returns 6 times a coefficient of the polynomial of the body counted last, by the counts' differences. */
        long sixfold(int power) {
            long first = counts[1] - counts[0];
            long second = counts[2] - 2 * counts[1] + counts[0];
            long third = counts[3] - 3 * counts[2] + 3 * counts[1] - counts[0];
            switch (power) {
                case 0:
                    return 6 * counts[0];
                case 1:
                    return 6 * first - 3 * second + 2 * third;
                case 2:
                    return 3 * second - 3 * third;
                default:
                    return third;
            }
        }
    }

    /** Measures bodies, made as great as a scale tells, so that all corners are whole: by what is seen of walls. */
    private static final class Wedges {
        private final long[] x = new long[MOST_POINTS];
        private final long[] y = new long[MOST_POINTS];
        private final long[] z = new long[MOST_POINTS];

        /** Returns 6 times the volume: all simplices from the corner 0 are inside. */
        long fromCorner(Body body, long scale) {
            enlarge(body, scale);
            long fromX = x[0];
            long fromY = y[0];
            long fromZ = z[0];
            for (int i = 0; i < body.corners; i++) {
                x[i] -= fromX;
                y[i] -= fromY;
                z[i] -= fromZ;
            }
            long total = 0;
            for (int u = 0; u < body.walls.count; u++) {
                total += seen(body, u);
            }
            return total;
        }

        /** Returns 6 times the volume: what is behind a wall that has 0, 0, 0 above it is too much. */
        long fromOrigin(Body body, long scale) {
            enlarge(body, scale);
            long total = 0;
            for (int u = 0; u < body.walls.count; u++) {
                long wedge = seen(body, u);
                total += body.walls.d[u] < 0 ? -wedge : wedge;
            }
            return total;
        }

        private void enlarge(Body body, long scale) {
            for (int i = 0; i < body.corners; i++) {
                long w = body.points.w[i];
                long times = w == 0 ? 0 : scale / w;
                x[i] = body.points.x[i] * times;
                y[i] = body.points.y[i] * times;
                z[i] = body.points.z[i] * times;
            }
        }

        /** Returns 6 times the volume between 0, 0, 0 and a wall, by triangles from its lowest corner to its edges. */
        private long seen(Body body, int wall) {
            int tip = lowestBit(body.walls.on[wall]);
            long total = 0;
            for (int e = 0; e < body.edges.count && tip < body.corners; e++) {
                if (body.edges.isOn(e, wall)) {
                    total += Math.abs(det(x, y, z, tip, body.edges.low[e], body.edges.high[e]));
                }
            }
            return total;
        }
    }
}
