import java.util.NoSuchElementException;
import java.util.function.ObjIntConsumer;

/**
 * Each number that a call is given, promise by promise: all that are allowed are taken, from the least to the
 * greatest; the first ones beyond them and far ones are refused by the exception that is due, and change nothing.
 */
public final class RangesTest {
    private static final Class<?> ILLEGAL = IllegalArgumentException.class;
    private static final Class<?> NO_SHAPE = NoSuchElementException.class;
    private static final Class<?> OTHER_KIND = UnsupportedOperationException.class;
    private static final Class<?> NO_INDEX = IndexOutOfBoundsException.class;
    private static final Check CHECK = new Check();

    /** A call about a tile, of the shape given where it is about one. */
    private interface TileCall {
        void on(TileServer server, int level, int column, int row);
    }

    public static void main(String[] args) {
        promise2AddLine();
        promise3Extend();
        promise4MovePoint();
        promise5DropPoint();
        promise6AddArea();
        promise7MoveArea();
        promise8Remove();
        promise9SetLabel();
        promise10SetTolerance();
        promise11Pass();
        promise14KindOf();
        promises15To17Points();
        promises18And19Kept();
        promise20KeptPoints();
        promises21And22Cells();
        promises21To32Tiles();
        promise24AgeOf();
        promises28To31ShapesAtBorders();
        promises33To35Labels();
        promises36And38Levels();
        CHECK.end();
    }

    private static void coordinate(String what, ObjIntConsumer<TileServer> call) {
        CHECK.range(what, Recipes::mixed, 0, 64, ILLEGAL, call);
    }

    private static void level(String what, ObjIntConsumer<TileServer> call) {
        CHECK.range("the level of " + what, Recipes::mixed, 0, 3, NO_INDEX, call);
    }

    private static void shape(String what, ObjIntConsumer<TileServer> call) {
        CHECK.taken(what + " of the first shape", Recipes::mixed, server -> call.accept(server, 1));
        CHECK.taken(what + " of the last shape", Recipes::mixed, server -> call.accept(server, 2));
        noShape(what, call);
    }

    private static void line(String what, ObjIntConsumer<TileServer> call) {
        CHECK.taken(what + " of a line", Recipes::mixed, server -> call.accept(server, 1));
        CHECK.refused(what + " of an area", Recipes::mixed, OTHER_KIND, server -> call.accept(server, 2));
        noShape(what, call);
    }

    private static void area(String what, ObjIntConsumer<TileServer> call) {
        CHECK.taken(what + " of an area", Recipes::mixed, server -> call.accept(server, 2));
        CHECK.refused(what + " of a line", Recipes::mixed, OTHER_KIND, server -> call.accept(server, 1));
        noShape(what, call);
    }

    private static void noShape(String what, ObjIntConsumer<TileServer> call) {
        for (int number : Recipes.NO_NUMBERS) {
            CHECK.refused(what + " of no shape " + number, Recipes::mixed, NO_SHAPE, server -> call.accept(server, number));
            CHECK.refused(what + " of " + number + " without shapes", TileServer::new, NO_SHAPE, server -> call.accept(server, number));
        }
    }

    /** The index of a point: of a line with 2 points, with 4, and with as many as there may be. */
    private static void index(String what, ObjIntConsumer<TileServer> call) {
        CHECK.range(what + " of 2,", Recipes::plain, 0, 1, NO_INDEX, call);
        CHECK.range(what + " of 4,", Recipes::mixed, 0, 3, NO_INDEX, call);
        CHECK.range(what + " of 9,", Recipes::full, 0, 8, NO_INDEX, call);
    }

    private static void promise2AddLine() {
        coordinate("x1 of addLine", (server, n) -> server.addLine(n, 1, 2, 3));
        coordinate("y1 of addLine", (server, n) -> server.addLine(1, n, 2, 3));
        coordinate("x2 of addLine", (server, n) -> server.addLine(1, 2, n, 3));
        coordinate("y2 of addLine", (server, n) -> server.addLine(1, 2, 3, n));
    }

    private static void promise3Extend() {
        line("extend", (server, n) -> server.extend(n, 1, 2));
        coordinate("x of extend", (server, n) -> server.extend(1, n, 2));
        coordinate("y of extend", (server, n) -> server.extend(1, 2, n));
    }

    private static void promise4MovePoint() {
        line("movePoint", (server, n) -> server.movePoint(n, 0, 1, 2));
        index("the index of movePoint", (server, n) -> server.movePoint(1, n, 1, 2));
        coordinate("x of movePoint", (server, n) -> server.movePoint(1, 0, n, 2));
        coordinate("y of movePoint", (server, n) -> server.movePoint(1, 3, 2, n));
    }

    private static void promise5DropPoint() {
        line("dropPoint", (server, n) -> server.dropPoint(n, 0));
        CHECK.range("the index of dropPoint of 4,", Recipes::mixed, 0, 3, NO_INDEX, (server, n) -> server.dropPoint(1, n));
        CHECK.range("the index of dropPoint of 9,", Recipes::full, 0, 8, NO_INDEX, (server, n) -> server.dropPoint(1, n));
    }

    private static void promise6AddArea() {
        coordinate("x of addArea", (server, n) -> server.addArea(n, 1, 2, 3));
        coordinate("y of addArea", (server, n) -> server.addArea(1, n, 2, 3));
        CHECK.range("the reach of addArea", Recipes::mixed, 1, 20, ILLEGAL, (server, n) -> server.addArea(9, 9, n, n));
        CHECK.range("the reach of addArea, cut 20,", Recipes::mixed, 10, 20, ILLEGAL, (server, n) -> server.addArea(9, 9, n, 20));
        for (int i = 1; i <= 20; i++) {
            int reach = i;
            CHECK.range("the cut for the reach " + reach + ",", Recipes::mixed, reach, 2 * reach, ILLEGAL, (server, n) -> server.addArea(9, 9, reach, n));
        }
        // Twice such a reach would wrap around to 0 or to less than the cut.
        CHECK.refused("addArea of a reach whose double wraps", Recipes::mixed, ILLEGAL, server -> server.addArea(9, 9, Integer.MIN_VALUE, 0));
        CHECK.refused("addArea of a reach whose double wraps", Recipes::mixed, ILLEGAL, server -> server.addArea(9, 9, (1 << 30) + 1, Integer.MAX_VALUE));
    }

    private static void promise7MoveArea() {
        area("moveArea", (server, n) -> server.moveArea(n, 1, 2));
        for (int i : new int[] {0, 1, 31, 63, 64}) {
            int centre = i;
            CHECK.range("dx of moveArea from " + centre + ",", () -> Recipes.area(centre, 32, 2, 3), -centre, 64 - centre, ILLEGAL, (server, n) -> server.moveArea(1, n, 0));
            CHECK.range("dy of moveArea from " + centre + ",", () -> Recipes.area(32, centre, 2, 3), -centre, 64 - centre, ILLEGAL, (server, n) -> server.moveArea(1, 0, n));
        }
        int[] far = {Integer.MIN_VALUE, Integer.MIN_VALUE + 1, Integer.MAX_VALUE - 32, Integer.MAX_VALUE};
        for (int dx : far) {
            for (int dy : far) {
                CHECK.refused("moveArea by " + dx + ", " + dy, Recipes::mixed, ILLEGAL, server -> server.moveArea(2, dx, dy));
            }
        }
    }

    private static void promise8Remove() {
        shape("remove", (server, n) -> server.remove(n));
    }

    private static void promise9SetLabel() {
        shape("setLabel", (server, n) -> server.setLabel(n, 1, 2));
        for (int i = 1; i <= 2; i++) {
            int shape = i;
            CHECK.range("the width of a label of " + shape + ",", Recipes::mixed, 0, 8, ILLEGAL, (server, n) -> server.setLabel(shape, n, 2));
            CHECK.range("the rank of a label of " + shape + ",", Recipes::mixed, 1, 9, ILLEGAL, (server, n) -> server.setLabel(shape, 1, n));
            CHECK.range("the rank of no label of " + shape + ",", Recipes::mixed, 1, 9, ILLEGAL, (server, n) -> server.setLabel(shape, 0, n));
        }
    }

    private static void promise10SetTolerance() {
        level("setTolerance", (server, n) -> server.setTolerance(n, 1));
        for (int i = 0; i < 4; i++) {
            int level = i;
            CHECK.range("the tolerance of " + level + ",", Recipes::mixed, 0, 9, ILLEGAL, (server, n) -> server.setTolerance(level, n));
        }
    }

    private static void promise11Pass() {
        CHECK.range("ticks", Recipes::mixed, 1, 99, ILLEGAL, (server, n) -> server.pass(n));
    }

    private static void promise14KindOf() {
        shape("kindOf", (server, n) -> server.kindOf(n));
    }

    private static void promises15To17Points() {
        line("points", (server, n) -> server.points(n));
        line("xOf", (server, n) -> server.xOf(n, 0));
        line("yOf", (server, n) -> server.yOf(n, 0));
        index("the index of xOf", (server, n) -> server.xOf(1, n));
        index("the index of yOf", (server, n) -> server.yOf(1, n));
    }

    private static void promises18And19Kept() {
        line("isKept", (server, n) -> server.isKept(n, 0, 0));
        line("isKeptByMarks", (server, n) -> server.isKeptByMarks(n, 0, 0));
        level("isKept", (server, n) -> server.isKept(1, n, 0));
        level("isKeptByMarks", (server, n) -> server.isKeptByMarks(1, n, 0));
        for (int i = 0; i < 4; i++) {
            int level = i;
            index("the index of isKept", (server, n) -> server.isKept(1, level, n));
            index("the index of isKeptByMarks", (server, n) -> server.isKeptByMarks(1, level, n));
        }
    }

    private static void promise20KeptPoints() {
        line("keptPoints", (server, n) -> server.keptPoints(n, 0));
        level("keptPoints", (server, n) -> server.keptPoints(1, n));
    }

    private static void promises21And22Cells() {
        for (int i = 0; i < 4; i++) {
            int level = i;
            int last = (1 << level) - 1;
            CHECK.range("x of cellAt", Recipes::mixed, 0, 7, NO_INDEX, (server, n) -> server.cellAt(level, last, 0, n, 0));
            CHECK.range("y of cellAt", Recipes::mixed, 0, 7, NO_INDEX, (server, n) -> server.cellAt(level, 0, last, 7, n));
            CHECK.range("x of cellByDrawing", Recipes::mixed, 0, 7, NO_INDEX, (server, n) -> server.cellByDrawing(level, last, 0, n, 7));
            CHECK.range("y of cellByDrawing", Recipes::mixed, 0, 7, NO_INDEX, (server, n) -> server.cellByDrawing(level, 0, last, 0, n));
        }
    }

    private static void promises21To32Tiles() {
        tiles("cellAt", (server, level, column, row) -> server.cellAt(level, column, row, 7, 0));
        tiles("cellByDrawing", (server, level, column, row) -> server.cellByDrawing(level, column, row, 0, 7));
        tiles("isCached", (server, level, column, row) -> server.isCached(level, column, row));
        tiles("areaIn", (server, level, column, row) -> server.areaIn(2, level, column, row));
        tiles("areaByQuarters", (server, level, column, row) -> server.areaByQuarters(2, level, column, row));
        tiles("crossesRight", (server, level, column, row) -> server.crossesRight(1, level, column, row));
        tiles("crossesLeft", (server, level, column, row) -> server.crossesLeft(1, level, column, row));
        tiles("segmentsIn", (server, level, column, row) -> server.segmentsIn(level, column, row));
    }

    /** At the levels 0 to 3, there are 1, 2, 4 and 8 columns and rows. */
    private static void tiles(String what, TileCall call) {
        level(what, (server, n) -> call.on(server, n, 0, 0));
        int[] tiles = {1, 2, 4, 8};
        for (int i = 0; i < 4; i++) {
            int level = i;
            int last = tiles[level] - 1;
            CHECK.range("the column of " + what + " at " + level + ",", Recipes::mixed, 0, last, NO_INDEX, (server, n) -> call.on(server, level, n, 0));
            CHECK.range("the row of " + what + " at " + level + ",", Recipes::mixed, 0, last, NO_INDEX, (server, n) -> call.on(server, level, last, n));
        }
    }

    private static void promise24AgeOf() {
        for (int i = 0; i < 4; i++) {
            int level = i;
            int last = (1 << level) - 1;
            CHECK.range("the column of ageOf at " + level + ",", Recipes::mixed, 0, last, NO_INDEX, (server, n) -> ageOf(server, level, n, last));
            CHECK.range("the row of ageOf at " + level + ",", Recipes::mixed, 0, last, NO_INDEX, (server, n) -> ageOf(server, level, last, n));
        }
        level("ageOf", (server, n) -> ageOf(server, n, 0, 0));
    }

    /** Puts the tile into the cache before, if there is such a tile. */
    private static void ageOf(TileServer server, int level, int column, int row) {
        boolean there = level >= 0 && level <= 3 && Math.min(column, row) >= 0 && Math.max(column, row) < 1 << level;
        if (there) {
            server.cellAt(level, column, row, 0, 0);
        }
        server.ageOf(level, column, row);
    }

    private static void promises28To31ShapesAtBorders() {
        area("areaIn", (server, n) -> server.areaIn(n, 0, 0, 0));
        area("areaByQuarters", (server, n) -> server.areaByQuarters(n, 0, 0, 0));
        line("crossesRight", (server, n) -> server.crossesRight(n, 0, 0, 0));
        line("crossesLeft", (server, n) -> server.crossesLeft(n, 0, 0, 0));
    }

    private static void promises33To35Labels() {
        shape("placeOf", (server, n) -> server.placeOf(n, 0));
        shape("labelLeft", (server, n) -> server.labelLeft(n, 0));
        shape("labelLow", (server, n) -> server.labelLow(n, 0));
        for (int i = 1; i <= 2; i++) {
            int shape = i;
            level("placeOf", (server, n) -> server.placeOf(shape, n));
            level("labelLeft", (server, n) -> server.labelLeft(shape, n));
            level("labelLow", (server, n) -> server.labelLow(shape, n));
        }
    }

    private static void promises36And38Levels() {
        level("shownLabels", (server, n) -> server.shownLabels(n));
        level("meanKept", (server, n) -> server.meanKept(n));
    }
}
