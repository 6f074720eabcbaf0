import java.lang.reflect.Array;
import java.lang.reflect.Field;
import java.util.function.Consumer;

/**
 * What isSound looks at. No run of calls is known that brings it to answer false: so here bodies are broken from
 * outside, by the names of the fields that hold them, each so that one of its sentences alone does not hold.
 */
public final class SoundTest extends Checks {
    public static void main(String[] args) throws Exception {
        for (int shelf = 0; shelf < 4; shelf++) {
            cornersEdgesWalls(shelf);
            cornersBeyond(shelf);
            wallsOfEdges(shelf);
            volumes(shelf);
            innerPoints(shelf);
            lesserBodies(shelf);
        }
        finish("SoundTest");
    }

    /** Starts with a body made as told on a shelf, and others on shelves beside it, all of them sound. */
    private static void startWith(String told, int shelf, Consumer<PolytopeBench> first) {
        start(told, x -> {
            first.accept(x);
            x.make((shelf + 1) % 4, 'o', 2);
            x.addPoint((shelf + 2) % 4, 1, 2, 3);
        });
        due(true, bench.isSound());
    }

    private static Object field(Object of, String name) throws Exception {
        Field field = of.getClass().getDeclaredField(name);
        field.setAccessible(true);
        return field.get(of);
    }

    private static Object body(int shelf) throws Exception {
        return Array.get(field(bench, "shelves"), shelf);
    }

    private static long[] row(int shelf, String part, String name) throws Exception {
        return (long[]) field(field(body(shelf), part), name);
    }

    private static void add(int shelf, String part, int more) throws Exception {
        Object of = field(body(shelf), part);
        Field count = of.getClass().getDeclaredField("count");
        count.setAccessible(true);
        count.setInt(of, count.getInt(of) + more);
    }

    /** A box with fractions of which no volume can be told, and no whole points by a polynomial. */
    private static void makeOdd(PolytopeBench x, int shelf) {
        x.make(shelf, 'c', 1);
        x.cut(shelf, shelf, 7, 0, 0, 1);
        x.cut(shelf, shelf, 0, 9, 0, 1);
    }

    private static void cornersEdgesWalls(int shelf) throws Exception {
        startWith("35: corners less edges plus walls are 2", shelf, x -> makeOdd(x, shelf));
        for (int more = -1; more <= 1; more += 2) {
            add(shelf, "edges", more);
            due(false, bench.isSound());
            add(shelf, "edges", -more);
            due(true, bench.isSound());
        }
    }

    private static void cornersBeyond(int shelf) throws Exception {
        startWith("35: no corner is beyond a wall", shelf, x -> makeOdd(x, shelf));
        for (int u = 0; u < 6; u++) {
            row(shelf, "walls", "d")[u]--;
            due(false, bench.isSound());
            row(shelf, "walls", "d")[u]++;
        }
        for (int i = 0; i < 8; i++) {
            row(shelf, "points", "z")[i] *= 2;
            due(false, bench.isSound());
            row(shelf, "points", "z")[i] /= 2;
        }
        due(true, bench.isSound());
    }

    private static void wallsOfEdges(int shelf) throws Exception {
        startWith("35: each edge is on 2 walls", shelf, x -> makeOdd(x, shelf));
        for (int u = 0; u < 6; u++) {
            long kept = row(shelf, "walls", "on")[u];
            row(shelf, "walls", "on")[u] = 0;
            due(false, bench.isSound());
            row(shelf, "walls", "on")[u] = 255;
            due(false, bench.isSound());
            row(shelf, "walls", "on")[u] = kept;
        }
        int[] low = (int[]) field(field(body(shelf), "edges"), "low");
        for (int e = 0; e < 12; e++) {
            int kept = low[e];
            // The corner across, which has no wall in common with the other end.
            low[e] = 7 - bench.edgeEnd(shelf, e, true);
            due(false, bench.isSound());
            low[e] = kept;
        }
        due(true, bench.isSound());
    }

    /** A wall that has 0, 0, 0 above it comes to have it below: this is another volume, seen from 0, 0, 0 alone. */
    private static void volumes(int shelf) throws Exception {
        int[][] runs = {{3, 4, 5}, {3, 5, 8}};
        for (int[] run : runs) {
            startWith("35: both volumes agree, if they can be told", shelf, x -> {
                x.make(shelf, 'c', 1);
                x.cut(shelf, shelf, run[0], 0, 0, 1);
                x.cut(shelf, shelf, 0, run[1], 0, 1);
                x.cut(shelf, shelf, 0, 0, run[2], 1);
                x.shift(shelf, 6, 0, 0);
            });
            due(-5, bench.wall(shelf, 0, 'd'));
            row(shelf, "walls", "d")[0] = 1;
            // The least whole number that 3, 5 and 8 divide is 120.
            due(run[2] == 8, bench.isSound());
        }
    }

    /** A wall farther off leaves corners and volumes as they are, but more points are inner ones. */
    private static void innerPoints(int shelf) throws Exception {
        startWith("35: inner points are those that the polynomial tells for -1", shelf, x -> x.make(shelf, 'c', 6));
        row(shelf, "walls", "d")[5]++;
        due(false, bench.isSound());
        startWith("35: for one that can be counted: a box of 70000", shelf, x -> makeBox(x, shelf, 0, 0, 0, 1, 23, 83));
        row(shelf, "walls", "d")[5]++;
        due(false, bench.isSound());
        // Made 2 times as great it could be counted.
        startWith("35: for one that can be counted made 3 times as great", shelf, x -> makeGreat(x, shelf, 'c', 8));
        row(shelf, "walls", "d")[5]++;
        due(true, bench.isSound());
        startWith("35: for a whole one", shelf, x -> {
            x.make(shelf, 'c', 2);
            x.cut(shelf, shelf, 0, 0, -2, 1);
        });
        row(shelf, "walls", "d")[5]++;
        due(true, bench.isSound());
    }

    private static void lesserBodies(int shelf) throws Exception {
        startWith("35: all bodies of the dimension 3", shelf, x -> {
            x.make(shelf, 'c', 2);
            x.cut(shelf, shelf, 1, 0, 0, -2);
        });
        add(shelf, "walls", 1);
        due(2, bench.dimension(shelf));
        due(true, bench.isSound());
        due(4, bench.points(shelf));
    }
}
