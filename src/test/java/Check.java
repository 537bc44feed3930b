import java.util.Objects;
import java.util.function.Consumer;
import java.util.function.Function;
import java.util.function.Supplier;

/** Counts wrong answers and tells each of them. */
final class Check {
    private int wrong;

    void same(String what, Object got, Object due) {
        if (!Objects.equals(got, due)) {
            wrong++;
            System.out.println(what + " is " + got + ", due is " + due);
        }
    }

    /** Checks that a call on a server made by a recipe throws just what is due, and that it changes nothing. */
    void refused(String what, Supplier<TileServer> recipe, Class<?> due, Consumer<TileServer> call) {
        TileServer server = recipe.get();
        same(what, answer(server, call), due.getName());
        same("what stands after " + what, stateOf(server), stateOf(recipe.get()));
    }

    /** Checks that a call is taken, in which only its effect is of interest. */
    void taken(String what, Supplier<TileServer> recipe, Consumer<TileServer> call) {
        same(what, answer(recipe.get(), call), "nothing thrown");
    }

    void end() {
        System.out.println(wrong == 0 ? "all answers are as due" : wrong + " answers are not as due");
        if (wrong != 0) {
            System.exit(1);
        }
    }

    private static String answer(TileServer server, Consumer<TileServer> call) {
        try {
            call.accept(server);
            return "nothing thrown";
        } catch (RuntimeException e) {
            return e.getClass().getName();
        }
    }

    /** Tells all that can be asked without a change, in fewer than 450 calls for 12 shapes. */
    static String stateOf(TileServer server) {
        StringBuilder text = new StringBuilder();
        text.append(server.clock()).append(' ').append(server.shapes()).append(' ').append(server.cached());
        text.append(' ').append(server.misses()).append(' ').append(server.drawn());
        text.append(' ').append(ask(server, s -> s.hitShare()));
        for (int number = 1; number <= 14; number++) {
            int shape = number;
            Object kind = ask(server, s -> s.kindOf(shape));
            text.append("\n").append(shape).append(": ").append(kind);
            if (kind.equals('l')) {
                lineTo(text, server, shape);
            } else if (kind.equals('a')) {
                text.append(' ').append(server.areaByQuarters(shape, 0, 0, 0));
                text.append(' ').append(server.areaByQuarters(shape, 1, 0, 0));
                text.append(' ').append(server.areaByQuarters(shape, 1, 1, 0));
            }
            for (int level = 0; level < 4 && kind instanceof Character; level++) {
                int asked = level;
                text.append(' ').append(ask(server, s -> s.placeOf(shape, asked)));
            }
        }
        for (int level = 0; level < 4; level++) {
            tilesTo(text, server, level);
        }
        return text.toString();
    }

    private static void lineTo(StringBuilder text, TileServer server, int line) {
        int points = server.points(line);
        for (int i = 0; i < points; i++) {
            text.append(" (").append(server.xOf(line, i)).append(", ").append(server.yOf(line, i)).append(')');
        }
        for (int level = 0; level < 4; level++) {
            text.append(' ').append(server.keptPoints(line, level));
        }
    }

    private static void tilesTo(StringBuilder text, TileServer server, int level) {
        for (int column = 0; column < 1 << level; column++) {
            for (int row = 0; row < 1 << level; row++) {
                if (server.isCached(level, column, row)) {
                    text.append("\ntile ").append(level).append(' ').append(column).append(' ').append(row);
                    text.append(" of age ").append(server.ageOf(level, column, row));
                }
            }
        }
    }

    private static Object ask(TileServer server, Function<TileServer, Object> question) {
        try {
            return question.apply(server);
        } catch (RuntimeException e) {
            return e.getClass().getName();
        }
    }
}
