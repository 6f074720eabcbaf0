import java.lang.reflect.InvocationTargetException;
import java.lang.reflect.Method;
import java.util.ArrayList;
import java.util.Comparator;
import java.util.List;

/** Long runs of calls, chosen by a fixed sequence, on the program and on the plain bench: all answers must agree. */
public final class AgreementTest {
    private static final int CALLS = 512;
    private static final String[] MAKING = {"addPoint", "addPoint", "addPoint", "addPoint", "addPoint", "addPoint",
        "make", "make", "shift", "sum", "sum", "mirror", "mirror", "cut", "cut", "cut", "cut", "cut", "clear"};
    private static final String[] GROWING = {"addPoint", "addPoint", "addPoint", "addPoint", "addPoint", "addPoint",
        "addPoint", "addPoint", "addPoint", "addPoint", "addPoint", "mirror", "cut", "cut"};
    /** Bodies of all kinds, great numbers, many points, few places with many points in a plane, and places far off. */
    private enum Mode { MIXED, WILD, RICH, TIGHT, FAR }

    private long seed;
    private Mode mode;
    /** Where shelves are shifted to, for long, so that their points come to be far from each other. */
    private final int[] course = new int[3];

    private AgreementTest(long seed) {
        this.seed = seed;
    }

    public static void main(String[] args) throws Exception {
        int runs = args.length > 0 ? Integer.parseInt(args[0]) : 60;
        int first = args.length > 1 ? Integer.parseInt(args[1]) : 1;
        java.util.Map<String, Integer> tally = new java.util.TreeMap<>();
        for (int run = first; run < first + runs; run++) {
            new AgreementTest(run).run(tally);
        }
        if (args.length > 0) {
            System.out.println(tally);
        }
        System.out.println("AgreementTest: " + runs + " runs agree");
    }

    private void run(java.util.Map<String, Integer> tally) throws Exception {
        PolytopeBench bench = new PolytopeBench();
        PlainBench plain = new PlainBench();
        List<Method> methods = new ArrayList<>();
        for (Method method : PolytopeBench.class.getDeclaredMethods()) {
            if (java.lang.reflect.Modifier.isPublic(method.getModifiers())) {
                methods.add(method);
            }
        }
        methods.sort(Comparator.comparing(Method::getName));
        int chosen = next(8);
        mode = chosen == 0 ? Mode.WILD : chosen == 1 ? Mode.RICH : chosen == 2 ? Mode.TIGHT
                : chosen == 3 ? Mode.FAR : Mode.MIXED;
        StringBuilder log = new StringBuilder();
        for (int call = 0; call < CALLS; call++) {
            Method method = methods.get(next(methods.size()));
            boolean isRich = mode == Mode.RICH;
            if (next(3) == 0 || isRich && isMaking(method)) {
                String name = isRich ? GROWING[next(GROWING.length)] : MAKING[next(MAKING.length)];
                method = methods.stream().filter(m -> m.getName().equals(name)).findFirst().get();
            }
            if (mode == Mode.FAR && next(8) > 0) {
                String name = next(16) == 0 ? "addPoint" : "shift";
                method = methods.stream().filter(m -> m.getName().equals(name)).findFirst().get();
            }
            Object[] values = values(method, plain);
            String got = answer(bench, method, values);
            Method other = PlainBench.class.getMethod(method.getName(), method.getParameterTypes());
            String want = answer(plain, other, values);
            log.append(method.getName()).append(java.util.Arrays.toString(values)).append(" -> ").append(want);
            log.append('\n');
            tally.merge(method.getName() + (want.startsWith("throws") ? want.substring(6) : ""), 1, Integer::sum);
            if (!got.equals(want)) {
                System.out.println(log);
                System.out.println("answered " + got + ", due is " + want);
                System.exit(1);
            }
        }
    }

    private static boolean isMaking(Method method) {
        return List.of("clear", "make", "sum", "mirror", "cut", "shift").contains(method.getName());
    }

    private static String answer(Object bench, Method method, Object[] values) throws Exception {
        try {
            return String.valueOf(method.invoke(bench, values));
        } catch (InvocationTargetException e) {
            return "throws." + e.getCause().getClass().getName();
        }
    }

    private int next(int bound) {
        seed = seed * 6364136223846793005L + 1442695040888963407L;
        return (int) Long.remainderUnsigned(seed >>> 33, bound);
    }

    private int spread(int most) {
        return next(2 * most + 1) - most;
    }

    /** Values that mostly are in their range, and at times just beyond it or far off. */
    private Object[] values(Method method, PlainBench plain) {
        String name = method.getName();
        Class<?>[] types = method.getParameterTypes();
        Object[] values = new Object[types.length];
        int shelf = shelf();
        for (int i = 0; i < values.length; i++) {
            if (types[i] == boolean.class) {
                values[i] = next(2) == 0;
            } else if (types[i] == char.class) {
                values[i] = letter(name);
            } else if (i == 0) {
                values[i] = shelf;
            } else {
                values[i] = number(name, i, shelf, plain);
            }
        }
        return values;
    }

    private int course(int axis) {
        if (next(80) == 0) {
            course[axis] = 6 - 12 * next(2);
        }
        return course[axis];
    }

    private int shelf() {
        int chosen = next(mode == Mode.FAR ? 12 * 120 : 120);
        return chosen == 0 ? -1 : chosen == 1 ? 4 : mode == Mode.RICH ? chosen % 16 / 11
                : mode == Mode.FAR ? chosen % 12 / 11 : chosen % 4;
    }

    private char letter(String name) {
        String letters = switch (name) {
            case "make" -> "cos";
            case "corner" -> "xyzw";
            case "wall" -> "abcd";
            case "volume", "volumeAnew" -> "nd";
            default -> "xyz";
        };
        return next(60) == 0 ? "cosxyzwabcdneXN\u0000\uffff".charAt(next(17)) : letters.charAt(next(letters.length()));
    }

    private int number(String name, int place, int shelf, PlainBench plain) {
        if (next(150) == 0) {
            int[] odd = {7, -7, 10, -10, 100, -100, 1001, -1001, Integer.MAX_VALUE, Integer.MIN_VALUE, -1, 60, 0};
            return odd[next(odd.length)];
        }
        boolean isSolid = shelf >= 0 && shelf < 4 && plain.dimension(shelf) == 3;
        boolean isWild = mode == Mode.WILD;
        switch (name) {
            case "addPoint":
                return spread(mode == Mode.TIGHT ? 1 : mode == Mode.MIXED ? 1 + next(6) : 6);
            case "make":
                return 1 + next(isWild ? 6 : 2);
            case "shift":
                return mode == Mode.FAR ? course(place - 1) : spread(isWild ? 6 : 1);
            case "sum", "mirror", "areAlike":
                return shelf();
            case "cut":
                return place == 1 ? shelf() : place == 5 ? spread(isWild ? 99 : 12) : spread(isWild ? 9 : 3);
            case "wall", "sides":
                return isSolid ? next(plain.walls(shelf)) : 0;
            case "corner", "degree", "distance":
                return isSolid ? next(plain.corners(shelf)) : 0;
            case "touches":
                return !isSolid ? 0 : next(place == 1 ? plain.walls(shelf) : plain.corners(shelf));
            case "edgeEnd":
                return isSolid ? next(plain.edges(shelf)) : 0;
            case "has":
                return spread(isWild ? 8 : 3);
            case "best", "firstBest":
                return spread(next(4) == 0 ? 99 : 1);
            case "count", "coefficient":
                return next(4);
            case "inner":
                return 1 + next(4);
            default:
                return next(4);
        }
    }
}
