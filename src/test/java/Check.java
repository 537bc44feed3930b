import java.util.ArrayList;
import java.util.List;
import java.util.Objects;
import java.util.TreeSet;
import java.util.function.Consumer;
import java.util.function.Function;
import java.util.function.ObjIntConsumer;
import java.util.function.Supplier;

/** Counts wrong answers and tells each of them. */
final class Check {
    private int wrong;

    void same(String what, Object got, Object due) {
        if (!Objects.equals(got, due)) {
            wrong++;
            System.out.println(what + " is " + got + ", due is " + due);
        }
    }

    /** Checks that a call on a server made by a recipe throws just what is due, and that it changes nothing. */
    void refused(String what, Supplier<TileServer> recipe, Class<?> due, Consumer<TileServer> call) {
        TileServer server = recipe.get();
        same(what, answer(server, call), due.getName());
        same("what stands after " + what, allOf(server), allOf(recipe.get()));
    }

    /** Checks that a call is taken, in which only its effect is of interest. */
    void taken(String what, Supplier<TileServer> recipe, Consumer<TileServer> call) {
        same(what, answer(recipe.get(), call), "nothing thrown");
    }

    /** Checks that all numbers from least to greatest are taken, and that those beyond them are refused. */
    void range(String what, Supplier<TileServer> recipe, int least, int greatest, Class<?> due, ObjIntConsumer<TileServer> call) {
        for (int i = least; i <= greatest; i++) {
            int number = i;
            taken(what + " " + number, recipe, server -> call.accept(server, number));
        }
        for (int number : beyond(least, greatest)) {
            refused(what + " " + number, recipe, due, server -> call.accept(server, number));
        }
    }

    /** Returns the first numbers beyond, the farthest ones, and those of which a part of the bits would be allowed. */
    private static TreeSet<Integer> beyond(int least, int greatest) {
        TreeSet<Integer> numbers = new TreeSet<>(List.of(least - 1, greatest + 1, Integer.MIN_VALUE, Integer.MAX_VALUE));
        for (int bit : new int[] {5, 6, 8, 16, 26, 28, 29, 30, 31}) {
            for (int number : new int[] {least, greatest}) {
                numbers.add(number + (1 << bit));
                numbers.add(number - (1 << bit));
            }
        }
        numbers.removeIf(number -> number >= least && number <= greatest);
        return numbers;
    }

    void end() {
        System.out.println(wrong == 0 ? "all answers are as due" : wrong + " answers are not as due");
        if (wrong != 0) {
            System.exit(1);
        }
    }

    static String answer(TileServer server, Consumer<TileServer> call) {
        try {
            call.accept(server);
            return "nothing thrown";
        } catch (RuntimeException e) {
            return e.getClass().getName();
        }
    }

    /** Tells what stands and what comes of it, which changes the server; fewer than 480 calls for 12 shapes. */
    static String allOf(TileServer server) {
        return stateOf(server) + nextOf(server);
    }

    /** Tells all that can be asked without a change, in fewer than 400 calls for 12 shapes. */
    static String stateOf(TileServer server) {
        StringBuilder text = new StringBuilder();
        text.append(server.clock()).append(' ').append(server.shapes()).append(' ').append(server.cached());
        text.append(' ').append(server.misses()).append(' ').append(server.drawn());
        text.append(' ').append(ask(server, s -> s.hitShare()));
        for (int number = 1; number <= 14; number++) {
            int shape = number;
            Object kind = ask(server, s -> s.kindOf(shape));
            text.append("\n").append(shape).append(": ").append(kind);
            if (kind.equals('l')) {
                lineTo(text, server, shape);
            } else if (kind.equals('a')) {
                text.append(' ').append(server.areaByQuarters(shape, 0, 0, 0));
                text.append(' ').append(server.areaByQuarters(shape, 1, 0, 0));
                text.append(' ').append(server.areaByQuarters(shape, 1, 1, 0));
            }
            for (int level = 0; level < 4 && kind instanceof Character; level++) {
                int asked = level;
                text.append(' ').append(ask(server, s -> s.placeOf(shape, asked)));
            }
        }
        for (int[] tile : cachedTiles(server)) {
            text.append("\ntile ").append(tile[0]).append(' ').append(tile[1]).append(' ').append(tile[2]);
            text.append(" of age ").append(server.ageOf(tile[0], tile[1], tile[2]));
        }
        return text.toString();
    }

    private static void lineTo(StringBuilder text, TileServer server, int line) {
        int points = server.points(line);
        for (int i = 0; i < points; i++) {
            text.append(" (").append(server.xOf(line, i)).append(", ").append(server.yOf(line, i)).append(')');
        }
        for (int level = 0; level < 4; level++) {
            text.append(' ').append(server.keptPoints(line, level));
        }
    }

    private static List<int[]> cachedTiles(TileServer server) {
        List<int[]> tiles = new ArrayList<>();
        for (int level = 0; level < 4; level++) {
            for (int column = 0; column < 1 << level; column++) {
                for (int row = 0; row < 1 << level; row++) {
                    if (server.isCached(level, column, row)) {
                        tiles.add(new int[] {level, column, row});
                    }
                }
            }
        }
        return tiles;
    }

    /** Tells what only changes show: in which order tiles leave, the widths, the tolerances and the next number. */
    private static String nextOf(TileServer server) {
        StringBuilder text = new StringBuilder();
        List<int[]> tiles = cachedTiles(server);
        for (int i = 0; i < 5; i++) {
            server.cellAt(3, 3, i, 0, 0);
            text.append('\n');
            for (int[] tile : tiles) {
                text.append(server.isCached(tile[0], tile[1], tile[2]) ? 'x' : '.');
            }
        }
        for (int number = 1; number <= 14; number++) {
            int shape = number;
            text.append(' ').append(ask(server, s -> s.setLabel(shape, 0, 1)));
        }
        for (int level = 0; level < 4; level++) {
            text.append(' ').append(server.setTolerance(level, 9));
        }
        ask(server, s -> s.remove(2));
        return text.append(' ').append(ask(server, s -> s.addLine(0, 0, 1, 1))).toString();
    }

    private static Object ask(TileServer server, Function<TileServer, Object> question) {
        try {
            return question.apply(server);
        } catch (RuntimeException e) {
            return e.getClass().getName();
        }
    }
}
