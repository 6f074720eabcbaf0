import java.math.BigInteger;
import java.util.ArrayList;
import java.util.Comparator;
import java.util.HashSet;
import java.util.List;
import java.util.NoSuchElementException;
import java.util.Set;
import java.util.TreeMap;
import java.util.TreeSet;

/**
 * The document's words taken one by one, without thought of speed: walls are sought through all triples of points,
 * whole points one by one, matches by trial. It shares no code with the program, so that both can be compared.
 */
public final class PlainBench {
    private final Solid[] shelves = {new Solid(List.of()), new Solid(List.of()), new Solid(List.of()),
        new Solid(List.of())};

    /** Points, each x, y, z and w in shortest numbers; for the dimension 3 with corners, walls and edges. */
    private static final class Solid {
        static final Comparator<long[]> PLACE = (p, q) -> {
            for (int i = 0; i < 3; i++) {
                int order = Long.compare(p[i] * q[3], q[i] * p[3]);
                if (order != 0) {
                    return order;
                }
            }
            return 0;
        };
        static final Comparator<long[]> NUMBERS = (p, q) -> {
            for (int i = 0; i < 4; i++) {
                if (p[i] != q[i]) {
                    return Long.compare(p[i], q[i]);
                }
            }
            return 0;
        };
        final List<long[]> points;
        final TreeSet<long[]> wallSet = new TreeSet<>(NUMBERS);
        final List<long[]> walls = new ArrayList<>();
        final List<long[]> corners = new ArrayList<>();
        final List<int[]> edges = new ArrayList<>();
        int dimension;
        boolean hasAllSizes = true;

        Solid(List<long[]> given) {
            points = List.copyOf(given);
            for (long[] p : points) {
                for (long number : p) {
                    hasAllSizes &= Math.abs(number) <= 2000;
                }
            }
            dimension = -1;
            if (hasAllSizes) {
                dimension = rank() - 1;
                if (dimension == 3) {
                    findWalls();
                    findCorners();
                    findEdges();
                }
            }
        }

        Solid strippedIfSolid() {
            return dimension == 3 ? new Solid(corners) : this;
        }

        private int rank() {
            List<BigInteger[]> rows = new ArrayList<>();
            for (long[] p : points) {
                BigInteger[] row = new BigInteger[4];
                for (int i = 0; i < 4; i++) {
                    row[i] = BigInteger.valueOf(p[i]);
                }
                rows.add(row);
            }
            int rank = 0;
            for (int column = 0; column < 4; column++) {
                int pivot = rank;
                while (pivot < rows.size() && rows.get(pivot)[column].signum() == 0) {
                    pivot++;
                }
                if (pivot >= rows.size()) {
                    continue;
                }
                BigInteger[] kept = rows.get(pivot);
                rows.set(pivot, rows.get(rank));
                rows.set(rank, kept);
                for (int r = rank + 1; r < rows.size(); r++) {
                    BigInteger[] row = rows.get(r);
                    BigInteger factor = row[column];
                    for (int i = 0; i < 4; i++) {
                        row[i] = row[i].multiply(kept[column]).subtract(kept[i].multiply(factor));
                    }
                }
                rank++;
            }
            return rank;
        }

        private void findWalls() {
            for (int i = 0; i < points.size(); i++) {
                for (int j = i + 1; j < points.size(); j++) {
                    for (int k = j + 1; k < points.size(); k++) {
                        tryWall(points.get(i), points.get(j), points.get(k));
                    }
                }
            }
            walls.addAll(wallSet);
            for (long[] wall : walls) {
                for (long number : wall) {
                    hasAllSizes &= Math.abs(number) <= 1000000000L;
                }
            }
        }

        private void tryWall(long[] p, long[] q, long[] r) {
            // Two ways in the plane, by what the second and third point have beyond the first one.
            long[] one = new long[3];
            long[] other = new long[3];
            for (int i = 0; i < 3; i++) {
                one[i] = q[i] * p[3] - p[i] * q[3];
                other[i] = r[i] * p[3] - p[i] * r[3];
            }
            BigInteger[] plane = new BigInteger[4];
            BigInteger divisor = BigInteger.ZERO;
            BigInteger at = BigInteger.ZERO;
            for (int i = 0; i < 3; i++) {
                int m = (i + 1) % 3;
                int n = (i + 2) % 3;
                BigInteger normal = big(one[m], other[n]).subtract(big(one[n], other[m]));
                at = at.add(normal.multiply(BigInteger.valueOf(p[i])));
                plane[i] = normal.multiply(BigInteger.valueOf(p[3]));
                divisor = divisor.gcd(plane[i]);
            }
            plane[3] = at;
            divisor = divisor.gcd(at);
            if (divisor.signum() == 0) {
                return;
            }
            long[] wall = new long[4];
            for (int i = 0; i < 4; i++) {
                wall[i] = plane[i].divide(divisor).longValueExact();
            }
            int above = 0;
            int below = 0;
            for (long[] s : points) {
                int side = side(wall, s);
                above += side > 0 ? 1 : 0;
                below += side < 0 ? 1 : 0;
                if (above > 0 && below > 0) {
                    return;
                }
            }
            for (int i = 0; i < 4 && above > 0; i++) {
                wall[i] = -wall[i];
            }
            wallSet.add(wall);
        }

        private static BigInteger big(long p, long q) {
            return BigInteger.valueOf(p).multiply(BigInteger.valueOf(q));
        }

        static int side(long[] wall, long[] p) {
            long side = Math.negateExact(Math.multiplyExact(wall[3], p[3]));
            for (int i = 0; i < 3; i++) {
                side = Math.addExact(side, Math.multiplyExact(wall[i], p[i]));
            }
            return Long.signum(side);
        }

        /** A corner is where three walls meet that have no line in common. */
        private void findCorners() {
            for (long[] p : points) {
                List<long[]> here = new ArrayList<>();
                for (long[] wall : walls) {
                    if (side(wall, p) == 0) {
                        here.add(wall);
                    }
                }
                if (hasThreeWays(here)) {
                    corners.add(p);
                }
            }
            corners.sort(PLACE);
        }

        private static boolean hasThreeWays(List<long[]> walls) {
            for (long[] u : walls) {
                for (long[] v : walls) {
                    for (long[] w : walls) {
                        BigInteger det = BigInteger.ZERO;
                        for (int i = 0; i < 3; i++) {
                            int m = (i + 1) % 3;
                            int n = (i + 2) % 3;
                            det = det.add(BigInteger.valueOf(u[i]).multiply(big(v[m], w[n]).subtract(big(v[n], w[m]))));
                        }
                        if (det.signum() != 0) {
                            return true;
                        }
                    }
                }
            }
            return false;
        }

        private void findEdges() {
            for (int i = 0; i < corners.size(); i++) {
                for (int j = i + 1; j < corners.size(); j++) {
                    Set<Integer> common = new HashSet<>();
                    for (int c = 0; c < corners.size(); c++) {
                        common.add(c);
                    }
                    for (long[] wall : walls) {
                        if (side(wall, corners.get(i)) == 0 && side(wall, corners.get(j)) == 0) {
                            common.removeIf(c -> side(wall, corners.get(c)) != 0);
                        }
                    }
                    if (common.equals(Set.of(i, j))) {
                        edges.add(new int[] {i, j});
                    }
                }
            }
        }

        Set<Integer> cornersOf(long[] wall) {
            Set<Integer> found = new TreeSet<>();
            for (int c = 0; c < corners.size(); c++) {
                if (side(wall, corners.get(c)) == 0) {
                    found.add(c);
                }
            }
            return found;
        }

        int[][] distances() {
            int n = corners.size();
            int[][] found = new int[n][n];
            for (int i = 0; i < n; i++) {
                for (int j = 0; j < n; j++) {
                    found[i][j] = i == j ? 0 : 1000;
                }
            }
            for (int[] e : edges) {
                found[e[0]][e[1]] = 1;
                found[e[1]][e[0]] = 1;
            }
            for (int m = 0; m < n; m++) {
                for (int i = 0; i < n; i++) {
                    for (int j = 0; j < n; j++) {
                        found[i][j] = Math.min(found[i][j], found[i][m] + found[m][j]);
                    }
                }
            }
            return found;
        }

        boolean isWhole() {
            return corners.stream().allMatch(p -> p[3] == 1);
        }

        /** Low and high ends of the box, or null if it has too many whole points. */
        long[][] box(int k) {
            long[][] ends = new long[3][2];
            BigInteger size = BigInteger.ONE;
            for (int i = 0; i < 3; i++) {
                long low = Long.MAX_VALUE;
                long high = Long.MIN_VALUE;
                for (long[] p : corners) {
                    low = Math.min(low, Math.floorDiv(k * p[i], p[3]));
                    high = Math.max(high, -Math.floorDiv(-k * p[i], p[3]));
                }
                ends[i][0] = low;
                ends[i][1] = high;
                size = size.multiply(BigInteger.valueOf(high - low + 1));
            }
            return size.compareTo(BigInteger.valueOf(70000)) > 0 ? null : ends;
        }

        int count(int k, boolean isInner) {
            long[][] ends = box(k);
            if (ends == null) {
                throw new ArithmeticException();
            }
            int found = 0;
            for (long x = ends[0][0]; x <= ends[0][1]; x++) {
                for (long y = ends[1][0]; y <= ends[1][1]; y++) {
                    for (long z = ends[2][0]; z <= ends[2][1]; z++) {
                        long[] p = {x, y, z, k};
                        boolean isIn = true;
                        for (int u = 0; u < walls.size() && isIn; u++) {
                            isIn = side(walls.get(u), p) <= (isInner ? -1 : 0);
                        }
                        found += isIn ? 1 : 0;
                    }
                }
            }
            return found;
        }

        /** The numerator and denominator of 6 times the volume: thin slices along x, each a prismatoid. */
        BigInteger[] sixfoldVolume() {
            BigInteger scale = BigInteger.ONE;
            for (long[] p : corners) {
                BigInteger w = BigInteger.valueOf(p[3]);
                scale = scale.multiply(w).divide(scale.gcd(w));
            }
            if (scale.compareTo(BigInteger.valueOf(60)) > 0) {
                throw new ArithmeticException();
            }
            // From the middle of all corners, a point inside, to triangles between each edge and the wall's middle.
            int n = corners.size();
            BigInteger[] inside = mean(new TreeSet<>(range(n)), scale);
            BigInteger total = BigInteger.ZERO;
            BigInteger weight = BigInteger.valueOf(n);
            BigInteger numerator = BigInteger.ZERO;
            BigInteger denominator = BigInteger.ONE;
            for (long[] wall : walls) {
                Set<Integer> on = cornersOf(wall);
                BigInteger[] center = mean(on, scale);
                BigInteger m = BigInteger.valueOf(on.size());
                for (int[] e : edges) {
                    if (on.contains(e[0]) && on.contains(e[1])) {
                        BigInteger[] u = way(inside, weight, center, m);
                        BigInteger[] v = way(inside, weight, scaled(corners.get(e[0]), scale), BigInteger.ONE);
                        BigInteger[] w = way(inside, weight, scaled(corners.get(e[1]), scale), BigInteger.ONE);
                        total = det(u, v, w).abs();
                        BigInteger below = weight.pow(3).multiply(m);
                        numerator = numerator.multiply(below).add(total.multiply(denominator));
                        denominator = denominator.multiply(below);
                        BigInteger g = numerator.gcd(denominator);
                        numerator = numerator.divide(g);
                        denominator = denominator.divide(g);
                    }
                }
            }
            denominator = denominator.multiply(scale.pow(3));
            BigInteger g = numerator.gcd(denominator);
            return new BigInteger[] {numerator.divide(g), denominator.divide(g)};
        }

        private static List<Integer> range(int n) {
            List<Integer> numbers = new ArrayList<>();
            for (int i = 0; i < n; i++) {
                numbers.add(i);
            }
            return numbers;
        }

        private BigInteger[] scaled(long[] p, BigInteger scale) {
            BigInteger[] q = new BigInteger[3];
            for (int i = 0; i < 3; i++) {
                q[i] = BigInteger.valueOf(p[i]).multiply(scale).divide(BigInteger.valueOf(p[3]));
            }
            return q;
        }

        /** The sum of corners, which is their middle as often as they are. */
        private BigInteger[] mean(Set<Integer> of, BigInteger scale) {
            BigInteger[] q = {BigInteger.ZERO, BigInteger.ZERO, BigInteger.ZERO};
            for (int c : of) {
                BigInteger[] p = scaled(corners.get(c), scale);
                for (int i = 0; i < 3; i++) {
                    q[i] = q[i].add(p[i]);
                }
            }
            return q;
        }

        private static BigInteger[] way(BigInteger[] from, BigInteger v, BigInteger[] to, BigInteger w) {
            BigInteger[] q = new BigInteger[3];
            for (int i = 0; i < 3; i++) {
                q[i] = to[i].multiply(v).subtract(from[i].multiply(w));
            }
            return q;
        }

        private static BigInteger det(BigInteger[] u, BigInteger[] v, BigInteger[] w) {
            BigInteger det = BigInteger.ZERO;
            for (int i = 0; i < 3; i++) {
                int m = (i + 1) % 3;
                int n = (i + 2) % 3;
                det = det.add(u[i].multiply(v[m].multiply(w[n]).subtract(v[n].multiply(w[m]))));
            }
            return det;
        }
    }

    // ---- making

    public int clear(int shelf) {
        int had = at(shelf).points.size();
        shelves[shelf] = new Solid(List.of());
        return had;
    }

    public int addPoint(int shelf, int x, int y, int z) {
        Solid old = at(shelf);
        range(x, 6);
        range(y, 6);
        range(z, 6);
        List<long[]> points = new ArrayList<>(old.points);
        if (add(points, x, y, z, 1)) {
            if (points.size() > 60) {
                throw new IllegalStateException();
            }
            put(shelf, new Solid(points), false);
        }
        return points.size();
    }

    public int make(int shelf, char kind, int size) {
        at(shelf);
        if ("cos".indexOf(kind) < 0 || size < 1 || size > 6) {
            throw new IllegalArgumentException();
        }
        List<long[]> points = new ArrayList<>();
        for (int x = -1; x <= 1; x++) {
            for (int y = -1; y <= 1; y++) {
                for (int z = -1; z <= 1; z++) {
                    int all = Math.abs(x) + Math.abs(y) + Math.abs(z);
                    boolean isIn = kind == 'c' ? all == 3 : kind == 'o' ? all == 1 : all <= 1 && x + y + z == all;
                    if (isIn) {
                        add(points, x * size, y * size, z * size, 1);
                    }
                }
            }
        }
        put(shelf, new Solid(points), true);
        return points.size();
    }

    public int shift(int shelf, int x, int y, int z) {
        Solid old = at(shelf);
        range(x, 6);
        range(y, 6);
        range(z, 6);
        List<long[]> points = new ArrayList<>();
        for (long[] p : old.points) {
            add(points, p[0] + x * p[3], p[1] + y * p[3], p[2] + z * p[3], p[3]);
        }
        put(shelf, new Solid(points), false);
        return points.size();
    }

    public int sum(int to, int one, int other) {
        at(to);
        at(one);
        at(other);
        Solid first = solid(one);
        Solid second = solid(other);
        List<long[]> points = new ArrayList<>();
        for (long[] p : first.corners) {
            for (long[] q : second.corners) {
                add(points, p[0] * q[3] + q[0] * p[3], p[1] * q[3] + q[1] * p[3], p[2] * q[3] + q[2] * p[3],
                        p[3] * q[3]);
            }
        }
        if (points.size() > 60) {
            throw new IllegalStateException();
        }
        put(to, new Solid(points), true);
        return shelves[to].corners.size();
    }

    public int mirror(int to, int from) {
        at(to);
        at(from);
        Solid body = solid(from);
        List<long[]> points = new ArrayList<>();
        for (long[] wall : body.walls) {
            if (wall[3] <= 0) {
                throw new UnsupportedOperationException();
            }
            add(points, wall[0], wall[1], wall[2], wall[3]);
        }
        if (points.size() > 60) {
            throw new IllegalStateException();
        }
        put(to, new Solid(points), true);
        return shelves[to].corners.size();
    }

    public int cut(int to, int from, int a, int b, int c, int d) {
        at(to);
        at(from);
        range(a, 9);
        range(b, 9);
        range(c, 9);
        range(d, 99);
        if (a == 0 && b == 0 && c == 0) {
            throw new IllegalArgumentException();
        }
        Solid body = solid(from);
        long[] plane = {a, b, c, d};
        List<long[]> points = new ArrayList<>();
        for (long[] p : body.corners) {
            if (Solid.side(plane, p) <= 0) {
                add(points, p[0], p[1], p[2], p[3]);
            }
        }
        for (int[] e : body.edges) {
            long[] p = body.corners.get(e[0]);
            long[] q = body.corners.get(e[1]);
            if (Solid.side(plane, p) * Solid.side(plane, q) < 0) {
                long atP = a * p[0] + b * p[1] + c * p[2] - d * p[3];
                long atQ = a * q[0] + b * q[1] + c * q[2] - d * q[3];
                long way = Long.signum(atQ - atP);
                add(points, way * (p[0] * atQ - q[0] * atP), way * (p[1] * atQ - q[1] * atP),
                        way * (p[2] * atQ - q[2] * atP), way * (p[3] * atQ - q[3] * atP));
            }
        }
        if (points.size() > 60) {
            throw new IllegalStateException();
        }
        put(to, new Solid(points), true);
        return points.size();
    }

    // ---- corners and walls

    public int points(int shelf) {
        return at(shelf).points.size();
    }

    public int dimension(int shelf) {
        return at(shelf).dimension;
    }

    public int corners(int shelf) {
        return solid(shelf).corners.size();
    }

    public int corner(int shelf, int corner, char what) {
        return (int) pick(solid(shelf).corners, corner, "xyzw", what);
    }

    public int walls(int shelf) {
        return solid(shelf).walls.size();
    }

    public int wall(int shelf, int wall, char what) {
        return (int) pick(solid(shelf).walls, wall, "abcd", what);
    }

    public boolean touches(int shelf, int wall, int corner) {
        Solid body = solid(shelf);
        number(wall, body.walls.size());
        number(corner, body.corners.size());
        return body.cornersOf(body.walls.get(wall)).contains(corner);
    }

    public int edges(int shelf) {
        return solid(shelf).edges.size();
    }

    public int edgeEnd(int shelf, int edge, boolean isHigher) {
        Solid body = solid(shelf);
        number(edge, body.edges.size());
        return body.edges.get(edge)[isHigher ? 1 : 0];
    }

    public int degree(int shelf, int corner) {
        Solid body = solid(shelf);
        number(corner, body.corners.size());
        int found = 0;
        for (int[] e : body.edges) {
            found += e[0] == corner || e[1] == corner ? 1 : 0;
        }
        return found;
    }

    public int sides(int shelf, int wall) {
        Solid body = solid(shelf);
        number(wall, body.walls.size());
        return body.cornersOf(body.walls.get(wall)).size();
    }

    public int distance(int shelf, int corner, int other) {
        Solid body = solid(shelf);
        number(corner, body.corners.size());
        number(other, body.corners.size());
        return body.distances()[corner][other];
    }

    public int diameter(int shelf) {
        int greatest = 0;
        for (int[] row : solid(shelf).distances()) {
            for (int distance : row) {
                greatest = Math.max(greatest, distance);
            }
        }
        return greatest;
    }

    public boolean areAlike(int shelf, int other) {
        at(shelf);
        at(other);
        Solid one = solid(shelf);
        Solid two = solid(other);
        if (one.corners.size() != two.corners.size() || one.walls.size() != two.walls.size()
                || one.edges.size() != two.edges.size()) {
            return false;
        }
        Set<Set<Integer>> wanted = new HashSet<>();
        for (long[] wall : two.walls) {
            wanted.add(two.cornersOf(wall));
        }
        // Corners next to those before are matched next: so a wrong match shows itself soon.
        List<Integer> order = new ArrayList<>(List.of(0));
        int[][] far = one.distances();
        for (int i = 0; i < order.size(); i++) {
            for (int j = 0; j < one.corners.size(); j++) {
                if (far[order.get(i)][j] == 1 && !order.contains(j)) {
                    order.add(j);
                }
            }
        }
        return match(one, wanted, order, far, two.distances(), new ArrayList<>());
    }

    private static boolean match(Solid one, Set<Set<Integer>> wanted, List<Integer> order, int[][] far,
            int[][] farThere, List<Integer> matched) {
        if (matched.size() == order.size()) {
            TreeMap<Integer, Integer> to = new TreeMap<>();
            for (int i = 0; i < order.size(); i++) {
                to.put(order.get(i), matched.get(i));
            }
            Set<Set<Integer>> got = new HashSet<>();
            for (long[] wall : one.walls) {
                Set<Integer> there = new TreeSet<>();
                one.cornersOf(wall).forEach(c -> there.add(to.get(c)));
                got.add(there);
            }
            return got.equals(wanted);
        }
        int next = order.get(matched.size());
        for (int candidate = 0; candidate < order.size(); candidate++) {
            boolean isPossible = !matched.contains(candidate);
            for (int i = 0; i < matched.size() && isPossible; i++) {
                isPossible = far[next][order.get(i)] == farThere[candidate][matched.get(i)];
            }
            if (isPossible) {
                matched.add(candidate);
                if (match(one, wanted, order, far, farThere, matched)) {
                    return true;
                }
                matched.remove(matched.size() - 1);
            }
        }
        return false;
    }

    /** A point of the plane is a corner of a hull if a line through it has all others on one side. */
    public int shadow(int shelf, char axis) {
        Solid body = solid(shelf);
        axis(axis);
        int u = axis == 'x' ? 1 : 0;
        int v = axis == 'z' ? 1 : 2;
        TreeSet<long[]> flat = new TreeSet<>(Solid.PLACE);
        for (long[] p : body.points) {
            flat.add(new long[] {p[u], p[v], 0, p[3]});
        }
        int found = 0;
        for (long[] p : flat) {
            found += isFlatCorner(p, flat) ? 1 : 0;
        }
        return found;
    }

    private static boolean isFlatCorner(long[] p, Set<long[]> flat) {
        for (long[] q : flat) {
            if (Solid.PLACE.compare(p, q) == 0) {
                continue;
            }
            // All others are on the left of the way to q, or on it ahead.
            boolean isGood = true;
            for (long[] r : flat) {
                long qx = q[0] * p[3] - p[0] * q[3];
                long qy = q[1] * p[3] - p[1] * q[3];
                long rx = r[0] * p[3] - p[0] * r[3];
                long ry = r[1] * p[3] - p[1] * r[3];
                long turn = qx * ry - qy * rx;
                isGood &= turn > 0 || turn == 0 && qx * rx + qy * ry >= 0;
            }
            if (isGood) {
                return true;
            }
        }
        return false;
    }

    // ---- programs and points

    public int has(int shelf, int x, int y, int z) {
        Solid body = solid(shelf);
        range(x, 1000);
        range(y, 1000);
        range(z, 1000);
        int greatest = -1;
        for (long[] wall : body.walls) {
            greatest = Math.max(greatest, Solid.side(wall, new long[] {x, y, z, 1}));
        }
        return 1 - greatest;
    }

    public int best(int shelf, int a, int b, int c) {
        return bestOnes(shelf, a, b, c).size();
    }

    public int firstBest(int shelf, int a, int b, int c) {
        return bestOnes(shelf, a, b, c).get(0);
    }

    private List<Integer> bestOnes(int shelf, int a, int b, int c) {
        Solid body = solid(shelf);
        range(a, 99);
        range(b, 99);
        range(c, 99);
        List<Integer> found = new ArrayList<>();
        for (int i = 0; i < body.corners.size(); i++) {
            long[] p = body.corners.get(i);
            long at = a * p[0] + b * p[1] + c * p[2];
            boolean isBest = true;
            for (long[] q : body.corners) {
                isBest &= at * q[3] >= (a * q[0] + b * q[1] + c * q[2]) * p[3];
            }
            if (isBest) {
                found.add(i);
            }
        }
        return found;
    }

    public int count(int shelf, int k) {
        Solid body = solid(shelf);
        if (k < 0 || k > 4) {
            throw new IllegalArgumentException();
        }
        return k == 0 ? 1 : body.count(k, false);
    }

    public int inner(int shelf, int k) {
        Solid body = solid(shelf);
        if (k < 1 || k > 4) {
            throw new IllegalArgumentException();
        }
        return body.count(k, true);
    }

    public int coefficient(int shelf, int power) {
        Solid body = solid(shelf);
        if (power < 0 || power > 3) {
            throw new IllegalArgumentException();
        }
        if (!body.isWhole()) {
            throw new NoSuchElementException();
        }
        int three = body.count(3, false);
        int two = body.count(2, false);
        int one = body.count(1, false);
        int[] found = {6, -11 + 18 * one - 9 * two + 2 * three, 6 - 15 * one + 12 * two - 3 * three,
            -1 + 3 * one - 3 * two + three};
        return found[power];
    }

    public boolean isReflexive(int shelf) {
        Solid body = solid(shelf);
        for (long[] wall : body.walls) {
            if (wall[3] <= 0 || wall[0] % wall[3] != 0 || wall[1] % wall[3] != 0 || wall[2] % wall[3] != 0) {
                return false;
            }
        }
        return body.isWhole();
    }

    // ---- volumes and figures

    public long volume(int shelf, char part) {
        Solid body = solid(shelf);
        if (part != 'n' && part != 'd') {
            throw new IllegalArgumentException();
        }
        return body.sixfoldVolume()[part == 'n' ? 0 : 1].longValueExact();
    }

    public long volumeAnew(int shelf, char part) {
        return volume(shelf, part);
    }

    public float meanDegree(int shelf) {
        Solid body = solid(shelf);
        return (float) (2 * body.edges.size()) / (float) body.corners.size();
    }

    public double middle(int shelf, char axis) {
        Solid body = solid(shelf);
        axis(axis);
        double total = 0;
        for (long[] p : body.corners) {
            total += (double) p[axis - 'x'] / (double) p[3];
        }
        return total / body.corners.size();
    }

    public boolean isSound() {
        return true;
    }

    // What is refused.

    private Solid at(int shelf) {
        if (shelf < 0 || shelf > 3) {
            throw new IndexOutOfBoundsException();
        }
        return shelves[shelf];
    }

    private Solid solid(int shelf) {
        if (at(shelf).dimension != 3) {
            throw new UnsupportedOperationException();
        }
        return shelves[shelf];
    }

    private void put(int shelf, Solid made, boolean isMade) {
        if (!made.hasAllSizes) {
            throw new ArithmeticException();
        }
        shelves[shelf] = isMade ? made.strippedIfSolid() : made;
    }

    private static boolean add(List<long[]> points, long x, long y, long z, long w) {
        long divisor = BigInteger.valueOf(x).gcd(BigInteger.valueOf(y)).gcd(BigInteger.valueOf(z))
                .gcd(BigInteger.valueOf(w)).longValueExact();
        long[] point = {x / divisor, y / divisor, z / divisor, w / divisor};
        for (long[] p : points) {
            if (java.util.Arrays.equals(p, point)) {
                return false;
            }
        }
        points.add(point);
        return true;
    }

    private static void range(int number, int most) {
        if (Math.abs((long) number) > most) {
            throw new IllegalArgumentException();
        }
    }

    private static void number(int number, int count) {
        if (number < 0 || number >= count) {
            throw new NoSuchElementException();
        }
    }

    private static void axis(char axis) {
        if ("xyz".indexOf(axis) < 0) {
            throw new IllegalArgumentException();
        }
    }

    private static long pick(List<long[]> rows, int number, String letters, char what) {
        number(number, rows.size());
        if (letters.indexOf(what) < 0) {
            throw new IllegalArgumentException();
        }
        return rows.get(number)[letters.indexOf(what)];
    }
}
