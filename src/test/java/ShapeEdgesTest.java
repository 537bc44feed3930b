import java.util.NoSuchElementException;
import java.util.function.ToIntFunction;

/** Edges of 'Map' and 'Shapes' in the document, and of its promises 1 to 9 and 12 to 17; one test for each sentence. */
public final class ShapeEdgesTest {
    private static final Class<?> NO_SHAPE = NoSuchElementException.class;
    private static final Class<?> FULL = IllegalStateException.class;
    private static final Check CHECK = new Check();

    public static void main(String[] args) {
        aNewServerHasNoShapes();
        aNewServerHasAnEmptyCache();
        aNewServerIsAtTheTick0();
        serversHaveNothingInCommon();
        thereAreAtMost12Lines();
        thereAreAtMost12Areas();
        thereAreAtMost12LinesAndAreas();
        aShapeTakenAwayMakesRoomForOne();
        numbersStartWith1();
        numbersAreInTheOrderInWhichShapesWereMade();
        numbersAreNotUsedAgain();
        refusedShapesTakeNoNumbers();
        numbersGoBeyondAByte();
        linesConsistOf2To9Points();
        neighbouringPointsCanBeTheSame();
        cornersOfTheMapCanBePoints();
        extendAddsBehindTheLastPoint();
        movePointMovesThatPointOnly();
        movePointReturnsHowManyTilesLeave();
        dropPointTakesThatPointAway();
        areasOfTheLeastAndTheGreatestNumbers();
        areasCanHaveTheirCentresInCornersOfTheMap();
        theCentreCanMoveToEachBorder();
        moveAreaReturnsHowManyTilesLeave();
        removeReturnsHowManyShapesAreLeft();
        whatWasTakenAwayIsNoShape();
        setLabelReturnsTheWidthBefore();
        theClockStandsAndGoesOn();
        theClockAfterAsManyTicksAsCanPass();
        shapesFromNoneToTwelve();
        kindsOfTheFirstAndTheLastShape();
        pointsFrom2To9();
        coordinatesOfTheFirstAndTheLastPoint();
        CHECK.end();
    }

    private static void aNewServerHasNoShapes() {
        CHECK.same("shapes of a new server", new TileServer().shapes(), 0);
        for (int number : new int[] {0, 1, 12}) {
            CHECK.refused("a shape of a new server", TileServer::new, NO_SHAPE, server -> server.kindOf(number));
        }
        for (int i = 0; i < 4; i++) {
            int level = i;
            CHECK.same("segments of a new server", new TileServer().segmentsIn(level, 0, 0), 0);
            CHECK.same("labels of a new server", new TileServer().shownLabels(level), 0);
            CHECK.same("a cell of a new server", new TileServer().cellAt(level, 0, 0, 0, 0), 0);
            CHECK.same("a drawn cell of a new server", new TileServer().cellByDrawing(level, 0, 0, 7, 7), 0);
            CHECK.refused("meanKept of a new server", TileServer::new, ArithmeticException.class, server -> server.meanKept(level));
        }
    }

    private static void aNewServerHasAnEmptyCache() {
        TileServer server = new TileServer();
        CHECK.same("cached of a new server", server.cached(), 0);
        CHECK.same("misses of a new server", server.misses(), 0);
        CHECK.same("drawn of a new server", server.drawn(), 0L);
        CHECK.same("a new server is fresh", server.isFresh(), true);
        CHECK.same("tiles that leave the cache of a new server", server.pass(99), 0);
        CHECK.refused("hitShare of a new server", TileServer::new, ArithmeticException.class, s -> s.hitShare());
        for (int level = 0; level < 4; level++) {
            for (int i = 0; i < 1 << 2 * level; i++) {
                CHECK.same("a tile of a new server", server.isCached(level, i >> level, i % (1 << level)), false);
            }
        }
        CHECK.refused("ageOf of a new server", TileServer::new, NO_SHAPE, s -> s.ageOf(0, 0, 0));
    }

    private static void aNewServerIsAtTheTick0() {
        CHECK.same("clock of a new server", new TileServer().clock(), 0);
        TileServer server = new TileServer();
        server.cellAt(0, 0, 0, 0, 0);
        CHECK.same("age at the tick 0", server.ageOf(0, 0, 0), 0);
    }

    private static void serversHaveNothingInCommon() {
        TileServer first = new TileServer();
        String before = Check.stateOf(first);
        Recipes.mixed();
        CHECK.same("a server after calls of another one", Check.stateOf(first), before);
        CHECK.same("its first number", first.addLine(0, 0, 1, 1), 1);
        CHECK.same("its first tolerance at level 1", first.setTolerance(1, 0), 2);
    }

    private static void thereAreAtMost12Lines() {
        CHECK.same("the 12th line", withShapes(12, 12).shapes(), 12);
        refusesMore("lines", 12);
    }

    private static void thereAreAtMost12Areas() {
        CHECK.same("the 12th area", withShapes(12, 0).shapes(), 12);
        refusesMore("areas", 0);
    }

    private static void thereAreAtMost12LinesAndAreas() {
        for (int lines = 1; lines < 12; lines++) {
            CHECK.same("12 shapes", withShapes(12, lines).shapes(), 12);
            refusesMore("shapes", lines);
        }
    }

    /** Makes so many shapes, of which the first ones are lines. */
    private static TileServer withShapes(int count, int lines) {
        TileServer server = new TileServer();
        for (int i = 1; i <= count; i++) {
            CHECK.same("the number of a shape", i <= lines ? server.addLine(i, i, 0, 9) : server.addArea(i, i, 1, 1), i);
            CHECK.same("shapes so far", server.shapes(), i);
        }
        return server;
    }

    private static void refusesMore(String what, int lines) {
        CHECK.refused("a line more than 12 " + what, () -> withShapes(12, lines), FULL, server -> server.addLine(0, 0, 1, 1));
        CHECK.refused("an area more than 12 " + what, () -> withShapes(12, lines), FULL, server -> server.addArea(0, 0, 1, 1));
    }

    private static TileServer fullAgain() {
        TileServer server = withShapes(12, 6);
        server.remove(12);
        server.addLine(0, 0, 1, 1);
        return server;
    }

    private static void aShapeTakenAwayMakesRoomForOne() {
        TileServer server = withShapes(12, 6);
        server.remove(7);
        CHECK.same("a line for an area", server.addLine(0, 0, 1, 1), 13);
        server.remove(1);
        CHECK.same("an area for a line", server.addArea(0, 0, 1, 1), 14);
        CHECK.same("shapes", server.shapes(), 12);
        CHECK.refused("a line more", ShapeEdgesTest::fullAgain, FULL, s -> s.addLine(0, 0, 1, 1));
        CHECK.refused("an area more", ShapeEdgesTest::fullAgain, FULL, s -> s.addArea(0, 0, 1, 1));
    }

    private static void numbersStartWith1() {
        CHECK.same("the number of the first line", new TileServer().addLine(0, 0, 0, 0), 1);
        CHECK.same("the number of the first area", new TileServer().addArea(0, 0, 1, 1), 1);
    }

    private static void numbersAreInTheOrderInWhichShapesWereMade() {
        TileServer server = new TileServer();
        CHECK.same("1st", server.addArea(1, 2, 3, 4), 1);
        CHECK.same("2nd", server.addLine(1, 2, 3, 4), 2);
        CHECK.same("3rd", server.addLine(1, 2, 3, 4), 3);
        CHECK.same("4th", server.addArea(1, 2, 3, 4), 4);
        CHECK.same("kinds", "" + server.kindOf(1) + server.kindOf(2) + server.kindOf(3) + server.kindOf(4), "alla");
    }

    private static void numbersAreNotUsedAgain() {
        TileServer server = withShapes(3, 2);
        server.remove(3);
        CHECK.same("after the last one was taken away", server.addArea(1, 2, 3, 4), 4);
        server.remove(1);
        CHECK.same("after the first one was taken away", server.addLine(1, 2, 3, 4), 5);
        server.remove(2);
        server.remove(4);
        server.remove(5);
        CHECK.same("after all were taken away", server.addLine(1, 2, 3, 4), 6);
    }

    private static void refusedShapesTakeNoNumbers() {
        TileServer server = withShapes(12, 6);
        CHECK.same("a line more", Check.answer(server, s -> s.addLine(0, 0, 1, 1)), FULL.getName());
        CHECK.same("an area more", Check.answer(server, s -> s.addArea(0, 0, 1, 1)), FULL.getName());
        server.remove(3);
        CHECK.same("a line off the map", Check.answer(server, s -> s.addLine(0, 0, 1, 65)), IllegalArgumentException.class.getName());
        CHECK.same("an area off the map", Check.answer(server, s -> s.addArea(0, -1, 1, 1)), IllegalArgumentException.class.getName());
        CHECK.same("the next number", server.addLine(0, 0, 1, 1), 13);
    }

    private static void numbersGoBeyondAByte() {
        TileServer server = new TileServer();
        for (int number = 1; number <= 254; number++) {
            server.addLine(0, 0, 1, 1);
            server.remove(number);
        }
        CHECK.same("number 255", server.addLine(0, 0, 1, 1), 255);
        CHECK.same("number 256", server.addArea(40, 40, 1, 1), 256);
        CHECK.same("a cell of 255", server.cellAt(0, 0, 0, 0, 0), 255);
        CHECK.same("a cell of 256", server.cellByDrawing(0, 0, 0, 5, 5), 256);
    }

    private static void linesConsistOf2To9Points() {
        TileServer server = new TileServer();
        server.addLine(0, 0, 1, 1);
        CHECK.same("points of a new line", server.points(1), 2);
        for (int points = 3; points <= 9; points++) {
            CHECK.same("extend", server.extend(1, points, 0), points);
            CHECK.same("points", server.points(1), points);
        }
        CHECK.same("a 10th point", Check.answer(server, s -> s.extend(1, 10, 0)), FULL.getName());
        for (int points = 8; points >= 2; points--) {
            CHECK.same("dropPoint", server.dropPoint(1, 0), points);
            CHECK.same("points", server.points(1), points);
        }
        CHECK.same("a single point", Check.answer(server, s -> s.dropPoint(1, 0)), FULL.getName());
        CHECK.same("points in the end", server.points(1), 2);
        CHECK.same("there is room again", server.extend(1, 3, 3), 3);
    }

    private static void neighbouringPointsCanBeTheSame() {
        TileServer server = new TileServer();
        server.addLine(7, 9, 7, 9);
        for (int points = 3; points <= 9; points++) {
            CHECK.same("extend at the same place", server.extend(1, 7, 9), points);
        }
        CHECK.same("the segments at level 3", server.segmentsIn(3, 0, 1), 1);
        server.addLine(7, 9, 8, 10);
        CHECK.same("movePoint to its neighbour", Check.answer(server, s -> s.movePoint(2, 1, 7, 9)), "nothing thrown");
        CHECK.same("x of both", server.xOf(2, 0) + server.xOf(2, 1), 14);
    }

    private static void cornersOfTheMapCanBePoints() {
        TileServer server = Recipes.line(0, 0, 0, 64, 64, 64, 64, 0);
        CHECK.same("points", pointsOf(server, 1), "(0, 0) (0, 64) (64, 64) (64, 0)");
        server.movePoint(1, 0, 64, 64);
        server.movePoint(1, 2, 0, 0);
        CHECK.same("moved points", pointsOf(server, 1), "(64, 64) (0, 64) (0, 0) (64, 0)");
    }

    private static String pointsOf(TileServer server, int line) {
        StringBuilder text = new StringBuilder();
        for (int i = 0; i < server.points(line); i++) {
            text.append(" (").append(server.xOf(line, i)).append(", ").append(server.yOf(line, i)).append(')');
        }
        return text.substring(1);
    }

    private static void extendAddsBehindTheLastPoint() {
        TileServer server = Recipes.line(1, 2, 3, 4);
        server.addLine(40, 41, 42, 43);
        server.extend(1, 5, 6);
        CHECK.same("the third point", pointsOf(server, 1), "(1, 2) (3, 4) (5, 6)");
        server.dropPoint(1, 2);
        server.extend(1, 7, 8);
        CHECK.same("the third point after one was dropped", pointsOf(server, 1), "(1, 2) (3, 4) (7, 8)");
        for (int i = 4; i <= 9; i++) {
            server.extend(1, i, i + 1);
        }
        CHECK.same("the ninth point", pointsOf(server, 1), "(1, 2) (3, 4) (7, 8) (4, 5) (5, 6) (6, 7) (7, 8) (8, 9) (9, 10)");
        CHECK.same("the other line", pointsOf(server, 2), "(40, 41) (42, 43)");
    }

    private static void movePointMovesThatPointOnly() {
        TileServer server = Recipes.line(1, 2, 3, 4, 5, 6);
        server.movePoint(1, 0, 10, 20);
        CHECK.same("the first one", pointsOf(server, 1), "(10, 20) (3, 4) (5, 6)");
        server.movePoint(1, 1, 30, 40);
        CHECK.same("one between", pointsOf(server, 1), "(10, 20) (30, 40) (5, 6)");
        server.movePoint(1, 2, 50, 60);
        CHECK.same("the last one", pointsOf(server, 1), "(10, 20) (30, 40) (50, 60)");
    }

    /** Puts the tiles of the columns 0 to 4 of the lowest row at level 3 into the cache; each is 8 wide. */
    private static int leaving(TileServer server, ToIntFunction<TileServer> change) {
        for (int column = 0; column < 5; column++) {
            server.cellAt(3, column, 0, 0, 0);
        }
        int left = change.applyAsInt(server);
        CHECK.same("tiles left in the cache", server.cached(), 5 - left);
        return left;
    }

    private static void movePointReturnsHowManyTilesLeave() {
        TileServer server = Recipes.line(2, 2, 3, 2);
        CHECK.same("an empty cache", server.movePoint(1, 1, 4, 2), 0);
        CHECK.same("to the same place", leaving(server, s -> s.movePoint(1, 1, 4, 2)), 1);
        CHECK.same("all of them", leaving(server, s -> s.movePoint(1, 1, 35, 2)), 5);
        CHECK.same("all of them, by the line as it was", leaving(server, s -> s.movePoint(1, 1, 7, 2)), 5);
        CHECK.same("to a border", leaving(server, s -> s.movePoint(1, 1, 8, 2)), 2);
        server = Recipes.line(50, 50, 60, 60);
        CHECK.same("none of five", leaving(server, s -> s.movePoint(1, 1, 64, 64)), 0);
    }

    private static void moveAreaReturnsHowManyTilesLeave() {
        TileServer server = Recipes.area(4, 4, 1, 1);
        CHECK.same("an empty cache", server.moveArea(1, 0, 0), 0);
        CHECK.same("to the same place", leaving(server, s -> s.moveArea(1, 0, 0)), 1);
        CHECK.same("beside it", leaving(server, s -> s.moveArea(1, 8, 0)), 2);
        CHECK.same("far from it", leaving(server, s -> s.moveArea(1, 20, 0)), 3);
        CHECK.same("off all tiles", leaving(server, s -> s.moveArea(1, 0, 40)), 2);
        CHECK.same("none of five", leaving(server, s -> s.moveArea(1, 0, 1)), 0);
        server = Recipes.area(20, 4, 19, 19);
        CHECK.same("each one counts once", leaving(server, s -> s.moveArea(1, 1, 0)), 5);
    }

    private static void dropPointTakesThatPointAway() {
        int[] points = {1, 2, 3, 4, 5, 6, 7, 8};
        TileServer server = Recipes.line(points);
        server.dropPoint(1, 0);
        CHECK.same("without the first one", pointsOf(server, 1), "(3, 4) (5, 6) (7, 8)");
        server = Recipes.line(points);
        server.dropPoint(1, 1);
        CHECK.same("without one between", pointsOf(server, 1), "(1, 2) (5, 6) (7, 8)");
        server = Recipes.line(points);
        server.dropPoint(1, 3);
        CHECK.same("without the last one", pointsOf(server, 1), "(1, 2) (3, 4) (5, 6)");
        server = Recipes.line(1, 2, 3, 4, 5, 6, 7, 8, 9, 10, 11, 12, 13, 14, 15, 16, 17, 18);
        server.dropPoint(1, 8);
        CHECK.same("8 of 9", pointsOf(server, 1), "(1, 2) (3, 4) (5, 6) (7, 8) (9, 10) (11, 12) (13, 14) (15, 16)");
        server.dropPoint(1, 0);
        CHECK.same("7 of 9", pointsOf(server, 1), "(3, 4) (5, 6) (7, 8) (9, 10) (11, 12) (13, 14) (15, 16)");
    }

    private static void areasOfTheLeastAndTheGreatestNumbers() {
        // Four times the size of a square, less that of four corners with two sides of the length 2 * reach - cut.
        int[][] areas = {{1, 1, 8}, {1, 2, 16}, {2, 2, 32}, {2, 3, 56}, {2, 4, 64}, {20, 20, 3200}, {20, 21, 3512}, {20, 39, 6392}, {20, 40, 6400}};
        for (int[] each : areas) {
            TileServer server = Recipes.area(32, 32, each[0], each[1]);
            CHECK.same("areaIn of reach " + each[0] + ", cut " + each[1], server.areaIn(1, 0, 0, 0), each[2]);
            CHECK.same("areaByQuarters of reach " + each[0] + ", cut " + each[1], server.areaByQuarters(1, 0, 0, 0), each[2]);
        }
    }

    private static void areasCanHaveTheirCentresInCornersOfTheMap() {
        for (int x = 0; x <= 64; x += 64) {
            for (int y = 0; y <= 64; y += 64) {
                TileServer server = Recipes.area(x, y, 20, 40);
                CHECK.same("what is shown of it", server.areaIn(1, 0, 0, 0), 4 * 400);
                CHECK.same("the cell in the corner", server.cellByDrawing(0, 0, 0, x == 0 ? 0 : 7, y == 0 ? 0 : 7), 1);
                CHECK.same("the cell in the opposite corner", server.cellByDrawing(0, 0, 0, x == 0 ? 7 : 0, y == 0 ? 7 : 0), 0);
            }
        }
    }

    private static void theCentreCanMoveToEachBorder() {
        TileServer server = Recipes.area(32, 32, 4, 8);
        int[][] steps = {{32, 0, 128}, {0, 32, 64}, {-64, 0, 64}, {0, -64, 64}, {64, 64, 64}, {-32, -32, 256}};
        for (int[] step : steps) {
            server.moveArea(1, step[0], step[1]);
            CHECK.same("what is shown after " + step[0] + ", " + step[1], server.areaIn(1, 0, 0, 0), step[2]);
        }
        CHECK.same("in the middle again", server.areaByQuarters(1, 3, 4, 4), 64);
    }

    private static void removeReturnsHowManyShapesAreLeft() {
        TileServer server = withShapes(12, 6);
        CHECK.same("without the first one", server.remove(1), 11);
        CHECK.same("without the last one", server.remove(12), 10);
        for (int number = 2; number <= 11; number++) {
            CHECK.same("without " + number, server.remove(number), 11 - number);
        }
        CHECK.same("shapes in the end", server.shapes(), 0);
    }

    private static TileServer withoutTheFirst() {
        TileServer server = withShapes(4, 2);
        server.setLabel(1, 1, 1);
        server.remove(1);
        return server;
    }

    private static TileServer withoutTheLast() {
        TileServer server = withShapes(4, 2);
        server.remove(4);
        return server;
    }

    private static void whatWasTakenAwayIsNoShape() {
        CHECK.refused("remove again", ShapeEdgesTest::withoutTheFirst, NO_SHAPE, s -> s.remove(1));
        CHECK.refused("kindOf", ShapeEdgesTest::withoutTheFirst, NO_SHAPE, s -> s.kindOf(1));
        CHECK.refused("points", ShapeEdgesTest::withoutTheFirst, NO_SHAPE, s -> s.points(1));
        CHECK.refused("extend", ShapeEdgesTest::withoutTheFirst, NO_SHAPE, s -> s.extend(1, 1, 1));
        CHECK.refused("setLabel", ShapeEdgesTest::withoutTheFirst, NO_SHAPE, s -> s.setLabel(1, 1, 1));
        CHECK.refused("placeOf", ShapeEdgesTest::withoutTheFirst, NO_SHAPE, s -> s.placeOf(1, 0));
        CHECK.refused("remove of the last one again", ShapeEdgesTest::withoutTheLast, NO_SHAPE, s -> s.remove(4));
        CHECK.refused("moveArea of the last one", ShapeEdgesTest::withoutTheLast, NO_SHAPE, s -> s.moveArea(4, 0, 0));
        CHECK.refused("areaIn of the last one", ShapeEdgesTest::withoutTheLast, NO_SHAPE, s -> s.areaIn(4, 0, 0, 0));
        CHECK.same("the others", "" + withoutTheFirst().kindOf(2) + withoutTheFirst().kindOf(3) + withoutTheFirst().kindOf(4), "laa");
    }

    private static void setLabelReturnsTheWidthBefore() {
        TileServer server = withShapes(2, 1);
        for (int shape = 1; shape <= 2; shape++) {
            CHECK.same("none before none", server.setLabel(shape, 0, 1), 0);
            CHECK.same("none before", server.setLabel(shape, 8, 9), 0);
            CHECK.same("the greatest before the same", server.setLabel(shape, 8, 1), 8);
            CHECK.same("the greatest before the least", server.setLabel(shape, 1, 5), 8);
            CHECK.same("the least before none", server.setLabel(shape, 0, 5), 1);
            CHECK.same("none once more", server.setLabel(shape, 3, 5), 0);
        }
    }

    private static void theClockStandsAndGoesOn() {
        TileServer server = Recipes.mixed();
        CHECK.same("the clock after 3 ticks", server.clock(), 3);
        server.movePoint(1, 0, 1, 1);
        server.remove(1);
        server.cellAt(0, 0, 0, 0, 0);
        CHECK.same("the clock after calls that let no ticks pass", server.clock(), 3);
        server.pass(1);
        CHECK.same("the clock after the least number of ticks", server.clock(), 4);
        server.pass(99);
        CHECK.same("the clock after the greatest number of ticks", server.clock(), 103);
    }

    private static void theClockAfterAsManyTicksAsCanPass() {
        TileServer server = new TileServer();
        for (int i = 0; i < 511; i++) {
            server.pass(99);
        }
        CHECK.same("the clock in the 512th call", server.clock(), 511 * 99);
    }

    private static void shapesFromNoneToTwelve() {
        for (int count = 0; count <= 12; count++) {
            CHECK.same("so many shapes", withShapes(count, count / 2).shapes(), count);
        }
    }

    private static void kindsOfTheFirstAndTheLastShape() {
        CHECK.same("the first line", withShapes(12, 6).kindOf(1), 'l');
        CHECK.same("the last line", withShapes(12, 6).kindOf(6), 'l');
        CHECK.same("the first area", withShapes(12, 6).kindOf(7), 'a');
        CHECK.same("the last area", withShapes(12, 6).kindOf(12), 'a');
    }

    private static void pointsFrom2To9() {
        TileServer server = Recipes.line(1, 1, 2, 2);
        for (int points = 2; points < 9; points++) {
            CHECK.same("so many points", server.points(1), points);
            server.extend(1, 3, 3);
        }
        CHECK.same("as many points as there may be", server.points(1), 9);
    }

    private static void coordinatesOfTheFirstAndTheLastPoint() {
        TileServer server = Recipes.line(0, 64, 1, 63, 2, 62, 3, 61, 4, 60, 5, 59, 6, 58, 7, 57, 64, 0);
        CHECK.same("x of the first point", server.xOf(1, 0), 0);
        CHECK.same("y of the first point", server.yOf(1, 0), 64);
        CHECK.same("x of the last of 9 points", server.xOf(1, 8), 64);
        CHECK.same("y of the last of 9 points", server.yOf(1, 8), 0);
        CHECK.same("x of the last but one", server.xOf(1, 7), 7);
        CHECK.same("y of the last but one", server.yOf(1, 7), 57);
    }
}
