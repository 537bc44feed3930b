import java.lang.reflect.InvocationTargetException;
import java.lang.reflect.Method;
import java.lang.reflect.Modifier;
import java.util.Arrays;
import java.util.TreeMap;
import java.util.TreeSet;

/** Long runs of calls, always the same ones, each answered by TileServer and by PlainServer. */
public final class AgainstPlainServerTest {
    private static final int RUNS = 600;
    private static final int CALLS = 512;

    /** Each method with what its arguments are; see argument(). Those that stand more than once come more often. */
    private static final String[] CALLS_OF_THE_FACE = {
        "addLine pppp", "addLine pppp", "extend spp", "extend spp", "extend spp", "extend spp", "movePoint sipp",
        "movePoint sipp", "dropPoint si", "addArea ppeu", "addArea ppeu", "moveArea sdd", "moveArea sdd", "remove s",
        "setLabel swk", "setLabel swk", "setLabel swk", "setTolerance lt", "pass n", "clock", "shapes", "kindOf s",
        "points s", "xOf si", "yOf si", "isKept sli", "isKept sli", "isKeptByMarks sli", "isKeptByMarks sli",
        "keptPoints sl", "cellAt lccxx", "cellAt lccxx", "cellAt lccxx", "cellAt lccxx", "cellAt lccxx",
        "cellByDrawing lccxx", "cellByDrawing lccxx", "isCached lcc", "isCached lcc", "ageOf lcc", "ageOf lcc",
        "cached", "misses", "hitShare", "areaIn slcc", "areaIn slcc", "areaByQuarters slcc", "areaByQuarters slcc",
        "crossesRight slcc", "crossesLeft slcc", "segmentsIn lcc", "placeOf sl", "placeOf sl", "labelLeft sl",
        "labelLow sl", "shownLabels l", "drawn", "meanKept l", "isFresh"};

    private static final Check CHECK = new Check();
    private static final TreeMap<String, Method> OF_TILE_SERVER = publicMethods(TileServer.class);
    private static final TreeMap<String, Method> OF_PLAIN_SERVER = publicMethods(PlainServer.class);
    private static long seed;

    public static void main(String[] args) throws IllegalAccessException {
        CHECK.same("the names of the methods", OF_TILE_SERVER.keySet(), namesInTheTable());
        for (int run = 0; run < RUNS; run++) {
            seed = run;
            compare(run);
        }
        CHECK.end();
    }

    private static void compare(int run) throws IllegalAccessException {
        TileServer server = new TileServer();
        PlainServer plain = new PlainServer();
        int wild = run % 3 == 0 ? 12 : 60;
        for (int call = 0; call < CALLS; call++) {
            String[] parts = CALLS_OF_THE_FACE[next(CALLS_OF_THE_FACE.length)].split(" ");
            Object[] arguments = arguments(parts.length > 1 ? parts[1] : "", wild, run);
            String due = answer(OF_PLAIN_SERVER.get(parts[0]), plain, arguments);
            String got = answer(OF_TILE_SERVER.get(parts[0]), server, arguments);
            if (!got.equals(due)) {
                CHECK.same("run " + run + ", call " + call + ": " + parts[0] + Arrays.toString(arguments), got, due);
                return;
            }
        }
    }

    private static String answer(Method method, Object object, Object[] arguments) throws IllegalAccessException {
        try {
            return method.invoke(object, arguments).toString();
        } catch (InvocationTargetException e) {
            return "throws " + e.getCause().getClass().getName();
        }
    }

    private static Object[] arguments(String kinds, int wild, int run) {
        Object[] arguments = new Object[kinds.length()];
        for (int i = 0; i < arguments.length; i++) {
            int before = i == 0 ? 0 : (Integer) arguments[i - 1];
            int level = kinds.indexOf('l') < 0 || kinds.indexOf('l') >= i ? 0 : (Integer) arguments[kinds.indexOf('l')];
            arguments[i] = next(wild) == 0 ? wildNumber() : argument(kinds.charAt(i), before, level, run);
        }
        return arguments;
    }

    private static int argument(char kind, int before, int level, int run) {
        return switch (kind) {
            // Some runs keep to a coarse grid, where borders, ends and equal distances fall together.
            case 'p' -> run % 2 == 0 ? next(65) : 8 * next(9);
            case 's' -> 1 + next(next(3) == 0 ? 40 : 14);
            case 'i' -> next(next(4) == 0 ? 10 : 3);
            case 'l' -> next(4);
            case 'c' -> next(1 << (level & 3));
            case 'x' -> next(8);
            case 'd' -> next(21) - 10;
            case 'e' -> 1 + next(20);
            case 'u' -> before + next(Math.max(1, Math.min(before, 20) + 1));
            case 't' -> next(10);
            case 'w' -> next(9);
            case 'k' -> 1 + next(9);
            case 'n' -> 1 + next(next(5) == 0 ? 99 : 6);
            default -> throw new IllegalStateException("no kind of argument: " + kind);
        };
    }

    private static int wildNumber() {
        int[] numbers = {-1, 0, 1, 4, 8, 9, 10, 20, 21, 64, 65, 99, 100, Integer.MIN_VALUE, Integer.MAX_VALUE};
        return numbers[next(numbers.length)];
    }

    /** Knuth's generator, so that the runs are the same on every machine. */
    private static int next(int bound) {
        seed = seed * 6364136223846793005L + 1442695040888963407L;
        return (int) ((seed >>> 33) % bound);
    }

    private static TreeSet<String> namesInTheTable() {
        TreeSet<String> names = new TreeSet<>();
        for (String call : CALLS_OF_THE_FACE) {
            names.add(call.split(" ")[0]);
        }
        return names;
    }

    private static TreeMap<String, Method> publicMethods(Class<?> of) {
        TreeMap<String, Method> methods = new TreeMap<>();
        for (Method method : of.getDeclaredMethods()) {
            if (Modifier.isPublic(method.getModifiers())) {
                methods.put(method.getName(), method);
            }
        }
        return methods;
    }
}
